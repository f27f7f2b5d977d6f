theorem g_bit8 : ∀ G : Nat, G < 256 → ∀ s : Nat, s < 8 → (iI (G : Int) >>> (iI (s : Int) &&& 31) = iI ((G / 2 ^ s : Nat) : Int)) ∧ (G / 2 ^ s &&& 1 = 0 ↔ G.testBit s = false) := by decide +kernel
theorem p2_8 : ∀ N : Nat, N ≤ 8 → 2 ^ N ≤ 256 := by decide
theorem g_or {G s N : Nat} (hG : G < 2 ^ N) (hs : s < N) : G ||| 2 ^ s < 2 ^ N := Nat.or_lt_two_pow hG (Nat.pow_lt_pow_right (by decide) hs)
theorem sMin_nn {f : Nat → Int} {b : Int} (hb : 0 ≤ b) (hf : ∀ s, 0 ≤ f s) (k : Nat) : 0 ≤ sMin f k b := by
  rcases sMin_at f b k with h | ⟨s, -, h⟩
  · rw [h]; exact hb
  · rw [h]; exact hf s
theorem sC_le (a : pw_H) (l y h i s : Int) : sC a l y h i s ≤ 100000 := by
  cases e : sF a l y h i s with
  | false => unfold sC; rw [e]; simp
  | true => have := sC_t e; omega
/-- the slip of a pair, -9: they don't match or the star doesn't count -/
def sSl (a : pw_H) (l y h i s : Int) : Int := if sF a l y h i s = true then sRk a l i s y h % 4 else -9
/-- the table of pairs is laid for the first i lines -/
def hPt (σ : pw_H) (a : pw_H) (t y h : Int) (N i : Nat) : Prop := ∀ j : Nat, j < i → ∀ s : Nat, s < N → σ 9 ((j : Int) * 8 + s) = sC a t y h j s ∧ σ 10 ((j : Int) * 8 + s) = sSl a t y h j s
/-- the least costs are laid for the lines from i on -/
def hRt (σ : pw_H) (C : Int → Int → Int) (N n i : Nat) : Prop := ∀ j : Nat, i ≤ j → j ≤ n → ∀ G : Nat, G < 2 ^ N → σ 8 (256 * (j : Int) + G) = sB C N n (n - j) G
set_option maxRecDepth 100000 in
set_option maxHeartbeats 8000000 in
theorem c_X6_lay (l : Launch) (G : pw_G) (σ : pw_H) {t : Nat} {y h : Int} (hI : Inv (vM σ)) (ht : t < 6) (hy : -3000 ≤ y ∧ y ≤ 3000) (hh : -600 ≤ h ∧ h ≤ 600) : Ct l shM G mX6_lay [.ref (G.2.1 0), vI (t : Int), vI y, vI h] σ (fun r τ => r = some (vI (sBest (vM σ) t y h)) ∧ Fm [8, 9, 10] σ τ ∧ hPt τ (vM σ) t y h (σ 0 0).toNat (σ 5 t).toNat ∧ hRt τ (sC (vM σ) t y h) (σ 0 0).toNat (σ 5 t).toNat 0) := by
  have h0 : 0 ≤ σ 0 0 ∧ σ 0 0 ≤ 8 := hI.1
  have h9 : 0 ≤ σ 5 t ∧ σ 5 t ≤ 8 := hI.2.2.2.2.2.2.2.1 t
  have hC := sC_0 (a := vM σ) (l := t) (y := y) (h := h)
  have hCl := sC_le (vM σ) t y h
  obtain ⟨N, hN⟩ : ∃ N : Nat, N = (σ 0 0).toNat := ⟨_, rfl⟩
  obtain ⟨n, hn⟩ : ∃ n : Nat, n = (σ 5 t).toNat := ⟨_, rfl⟩
  have hNi : σ 0 0 = (N : Int) := by omega
  have hni : σ 5 t = (n : Int) := by omega
  have hN8 : N ≤ 8 := by omega
  have hn8 : n ≤ 8 := by omega
  have h2N := p2_8 N hN8
  rw [← hN, ← hn]
  refine Ct_of (ls := [some (.ref (G.2.1 0)), some (vI (t : Int)), some (vI y), some (vI h), none, none, none, none, none, none]) (by decide +kernel) (Nat.le_of_ble_eq_true rfl) rfl (fun X C => ?_)
  -- the costs, from the last line back
  have lp3 : ∀ (k : Nat) (υ : pw_H), k ≤ n → Fm [8, 9, 10] σ υ → hPt υ (vM σ) t y h N n → hRt υ (sC (vM σ) t y h) N n k → PW X shM G 178 [some (.ref (G.2.1 0)), some (vI (t : Int)), some (vI y), some (vI h), some (vI (n : Int)), some (vI ((k : Int) - 1)), none, none, none, none] [] υ := by
    intro k
    induction k with
    | zero =>
      intro υ hk hF hP hR
      have e9 := hR 0 (Nat.le_refl 0) (Nat.zero_le n) 0 (Nat.pow_pos (by decide))
      have e10 : υ 8 0 = sBest (vM σ) t y h := by
        rw [Nat.sub_zero, hN, hn] at e9
        exact e9
      refine r_iload C rfl dX6_lay_178 ?_
      refine r_if_lt (tgt := 336) C (by decide) (by omega) dX6_lay_180 (fun c180 => ?_) (fun c180 => ?_)
      · refine r_aload_n C rfl dX6_lay_336 ?_
        refine r_getR C 5 12 rfl rfl (by decide) rfl uw_X6 fl_X6_35 dX6_lay_337 ?_
        refine r_iconst C dX6_lay_340 ?_
        refine r_iaload C rfl (by decide) (by omega) dX6_lay_341 ?_
        refine r_ireturn C rfl ?_ dX6_lay_342
        exact ⟨by rw [e10], hF, hP, hR⟩
      · omega
    | succ k ih =>
      intro υ hk hF hP hR
      have ek : ((k + 1 : Nat) : Int) - 1 = (k : Int) := by omega
      rw [ek]
      have ekn : n - k = (n - (k + 1)) + 1 := by omega
      have eki : ((n : Int) - ((n - (k + 1) + 1 : Nat) : Int)) = (k : Int) := by omega
      -- one set of stars after another
      have lp4 : ∀ (w g : Nat) (υ : pw_H), g + w = 2 ^ N → Fm [8, 9, 10] σ υ → hPt υ (vM σ) t y h N n → hRt υ (sC (vM σ) t y h) N n (k + 1) → (∀ g' : Nat, g' < g → υ 8 (256 * (k : Int) + g') = sB (sC (vM σ) t y h) N n (n - k) g') → PW X shM G 186 [some (.ref (G.2.1 0)), some (vI (t : Int)), some (vI y), some (vI h), some (vI (n : Int)), some (vI (k : Int)), some (vI (g : Int)), none, none, none] [] υ := by
        intro w
        induction w with
        | zero =>
          intro g υ hg hF hP hR hr
          have e0 : υ 0 0 = (N : Int) := (hF.2 0 (by decide) (by decide)).trans hNi
          have hgi : ((2 ^ N : Nat) : Int) ≤ (g : Int) := by omega
          refine r_iload C rfl dX6_lay_186 ?_
          refine r_iconst C dX6_lay_188 ?_
          refine r_aload_n C rfl dX6_lay_189 ?_
          refine r_getI (jz := 0) C 5 0 rfl rfl (by decide) rfl uw_X6 fl_X6_63 rfl dX6_lay_190 ?_
          rw [e0]
          refine r_ishl C (b_shl8 N (by omega)) dX6_lay_193 ?_
          refine r_icmp_ge (tgt := 330) C (by decide) (by omega) (by omega) dX6_lay_194 (fun c194 => ?_) (fun c194 => ?_)
          · refine r_iinc (ls' := [_, _, _, _, _, _, _, _, _, _]) C rfl (by decide) rfl rfl dX6_lay_330 ?_
            refine r_goto (tgt := 178) C (by decide) dX6_lay_333 ?_
            refine PW_lw [true, true, true, true, true, true, false, false, false, false] (ih υ (by omega) hF hP (fun j j1 j2 G' hG' => ?_)) rfl
            rcases Nat.lt_or_ge k j with q | q
            · exact hR j (by omega) j2 G' hG'
            · have : j = k := by omega
              subst this
              exact hr G' (by omega)
          · omega
        | succ w ihw =>
          intro g υ hg hF hP hR hr
          have e0 : υ 0 0 = (N : Int) := (hF.2 0 (by decide) (by decide)).trans hNi
          have hg2 : g < 2 ^ N := by omega
          have hgi : (g : Int) < ((2 ^ N : Nat) : Int) := by omega
          have hg256 : g < 256 := by omega
          have hB := sB_rng (N := N) (n := n) hC
          have e5 := hR (k + 1) (Nat.le_refl _) (by omega) g hg2
          have hb0 := hB (n - (k + 1)) g
          have ei : 256 * (k : Int) + 256 + (g : Int) = 256 * ((k + 1 : Nat) : Int) + (g : Int) := by omega
          have hf0 : ∀ s : Nat, 0 ≤ (fun s : Nat => if g.testBit s = true then 100000 else sC (vM σ) t y h k s + sB (sC (vM σ) t y h) N n (n - (k + 1)) (g ||| 2 ^ s)) s := by
            intro s
            simp only []
            have := hB (n - (k + 1)) (g ||| 2 ^ s)
            have := hC k s
            split <;> omega
          have es : sB (sC (vM σ) t y h) N n (n - k) g = sMin (fun s : Nat => if g.testBit s = true then 100000 else sC (vM σ) t y h k s + sB (sC (vM σ) t y h) N n (n - (k + 1)) (g ||| 2 ^ s)) N (100 + sB (sC (vM σ) t y h) N n (n - (k + 1)) g) := by
            rw [ekn]
            simp only [sB]
            rw [eki]
          -- one star after another
          have lp5 : ∀ (v s : Nat), s + v = N → PW X shM G 223 [some (.ref (G.2.1 0)), some (vI (t : Int)), some (vI y), some (vI h), some (vI (n : Int)), some (vI (k : Int)), some (vI (g : Int)), some (vI (sMin (fun s : Nat => if g.testBit s = true then 100000 else sC (vM σ) t y h k s + sB (sC (vM σ) t y h) N n (n - (k + 1)) (g ||| 2 ^ s)) s (100 + sB (sC (vM σ) t y h) N n (n - (k + 1)) g))), some (vI (s : Int)), none] [] υ := by
            intro v
            induction v with
            | zero =>
              intro s hs
              have hsN : s = N := by omega
              subst hsN
              refine r_iload C rfl dX6_lay_223 ?_
              refine r_aload_n C rfl dX6_lay_225 ?_
              refine r_getI (jz := 0) C 5 0 rfl rfl (by decide) rfl uw_X6 fl_X6_63 rfl dX6_lay_226 ?_
              refine r_icmp_ge (tgt := 308) C (by decide) (by omega) (by omega) dX6_lay_229 (fun c229 => ?_) (fun c229 => ?_)
              · refine r_aload_n C rfl dX6_lay_308 ?_
                refine r_getR C 5 12 rfl rfl (by decide) rfl uw_X6 fl_X6_35 dX6_lay_309 ?_
                refine r_sipush C (by decide +kernel) dX6_lay_312 ?_
                refine r_iload C rfl dX6_lay_315 ?_
                refine r_imul C dX6_lay_317 ?_
                refine r_iload C rfl dX6_lay_318 ?_
                refine r_iadd C dX6_lay_320 ?_
                refine r_iload C rfl dX6_lay_321 ?_
                refine r_iastore C rfl (by decide) (by omega) dX6_lay_323 ?_
                refine r_iinc (ls' := [_, _, _, _, _, _, _, _, _, _]) C rfl (by decide) rfl rfl dX6_lay_324 ?_
                refine r_goto (tgt := 186) C (by decide) dX6_lay_327 ?_
                refine PW_lw [true, true, true, true, true, true, true, false, false, false] (ihw (g + 1) _ (by omega) (hF.tr (Fm.u (by decide) (by decide)) (fun _ q => q) (fun _ q => q)) (fun j j1 s s1 => by rw [pw_u_k (by decide), pw_u_k (by decide)]; exact hP j j1 s s1) (fun j j1 j2 G' hG' => by rw [pw_u_j (by omega)]; exact hR j j1 j2 G' hG') (fun g' hg' => ?_)) rfl
                by_cases q : g' = g
                · subst q
                  rw [pw_u_s, ← es]
                · rw [pw_u_j (by omega)]; exact hr g' (by omega)
              · omega
            | succ v ihv =>
              intro s hs
              have hs8 : s < 8 := by omega
              obtain ⟨hb1, hb2⟩ := g_bit8 g hg256 s hs8
              have e6 := hP k (by omega) s (by omega)
              have e7 := hR (k + 1) (Nat.le_refl _) (by omega) (g ||| 2 ^ s) (g_or hg2 (by omega))
              have hb3 := hB (n - (k + 1)) (g ||| 2 ^ s)
              have hc0 := hC k s
              have hc1 := hCl k s
              have hor := g_or hg2 (show s < N by omega)
              have ei2 : 256 * (k : Int) + 256 + ((g ||| 2 ^ s : Nat) : Int) = 256 * ((k + 1 : Nat) : Int) + ((g ||| 2 ^ s : Nat) : Int) := by omega
              have hm0 := sMin_nn (show 0 ≤ 100 + sB (sC (vM σ) t y h) N n (n - (k + 1)) g by omega) hf0 s
              have hm1 := sMin_init (fun s : Nat => if g.testBit s = true then 100000 else sC (vM σ) t y h k s + sB (sC (vM σ) t y h) N n (n - (k + 1)) (g ||| 2 ^ s)) (100 + sB (sC (vM σ) t y h) N n (n - (k + 1)) g) s
              have hand : g / 2 ^ s &&& 1 ≤ 1 := Nat.and_le_right
              have estep : ∀ c : Int, c = (if g.testBit s = true then 100000 else sC (vM σ) t y h k s + sB (sC (vM σ) t y h) N n (n - (k + 1)) (g ||| 2 ^ s)) → sMin (fun s : Nat => if g.testBit s = true then 100000 else sC (vM σ) t y h k s + sB (sC (vM σ) t y h) N n (n - (k + 1)) (g ||| 2 ^ s)) (s + 1) (100 + sB (sC (vM σ) t y h) N n (n - (k + 1)) g) = zmin (sMin (fun s : Nat => if g.testBit s = true then 100000 else sC (vM σ) t y h k s + sB (sC (vM σ) t y h) N n (n - (k + 1)) (g ||| 2 ^ s)) s (100 + sB (sC (vM σ) t y h) N n (n - (k + 1)) g)) c := fun c hc => by rw [hc]; rfl
              have fin : ∀ c : Int, 0 ≤ c → c ≤ 1000000 → c = (if g.testBit s = true then 100000 else sC (vM σ) t y h k s + sB (sC (vM σ) t y h) N n (n - (k + 1)) (g ||| 2 ^ s)) → PW X shM G 284 [some (.ref (G.2.1 0)), some (vI (t : Int)), some (vI y), some (vI h), some (vI (n : Int)), some (vI (k : Int)), some (vI (g : Int)), some (vI (sMin (fun s : Nat => if g.testBit s = true then 100000 else sC (vM σ) t y h k s + sB (sC (vM σ) t y h) N n (n - (k + 1)) (g ||| 2 ^ s)) s (100 + sB (sC (vM σ) t y h) N n (n - (k + 1)) g))), some (vI (s : Int)), none] [vI c] υ := by
                intro c c0 c1 hc
                have e8 := estep c hc
                refine r_istore (ls' := [_, _, _, _, _, _, _, _, _, _]) C (by decide) rfl rfl dX6_lay_284 ?_
                refine r_iload C rfl dX6_lay_286 ?_
                refine r_iload C rfl dX6_lay_288 ?_
                refine r_icmp_ge (tgt := 298) C (by decide) (by omega) (by omega) dX6_lay_290 (fun c290 => ?_) (fun c290 => ?_)
                · refine r_iload C rfl dX6_lay_298 ?_
                  refine r_istore (ls' := [_, _, _, _, _, _, _, _, _, _]) C (by decide) rfl rfl dX6_lay_300 ?_
                  refine r_iinc (ls' := [_, _, _, _, _, _, _, _, _, _]) C rfl (by decide) rfl rfl dX6_lay_302 ?_
                  refine r_goto (tgt := 223) C (by decide) dX6_lay_305 ?_
                  refine PW_lw [true, true, true, true, true, true, true, true, true, false] (ihv (s + 1) (by omega)) ?_
                  rw [e8, zmin, if_neg (by omega)]
                  rfl
                · refine r_iload C rfl dX6_lay_293 ?_
                  refine r_goto (tgt := 300) C (by decide) dX6_lay_295 ?_
                  refine r_istore (ls' := [_, _, _, _, _, _, _, _, _, _]) C (by decide) rfl rfl dX6_lay_300 ?_
                  refine r_iinc (ls' := [_, _, _, _, _, _, _, _, _, _]) C rfl (by decide) rfl rfl dX6_lay_302 ?_
                  refine r_goto (tgt := 223) C (by decide) dX6_lay_305 ?_
                  refine PW_lw [true, true, true, true, true, true, true, true, true, false] (ihv (s + 1) (by omega)) ?_
                  rw [e8, zmin, if_pos (by omega)]
                  rfl
              refine r_iload C rfl dX6_lay_223 ?_
              refine r_aload_n C rfl dX6_lay_225 ?_
              refine r_getI (jz := 0) C 5 0 rfl rfl (by decide) rfl uw_X6 fl_X6_63 rfl dX6_lay_226 ?_
              refine r_icmp_ge (tgt := 308) C (by decide) (by omega) (by omega) dX6_lay_229 (fun c229 => ?_) (fun c229 => ?_)
              · omega
              · refine r_iload C rfl dX6_lay_232 ?_
                refine r_iload C rfl dX6_lay_234 ?_
                refine r_ishr C hb1 dX6_lay_236 ?_
                refine r_iconst C dX6_lay_237 ?_
                refine r_iand C (b_and (g / 2 ^ s) 1) dX6_lay_238 ?_
                refine r_if_ne (tgt := 282) C (by decide) (by omega) dX6_lay_239 (fun c239 => ?_) (fun c239 => ?_)
                · refine r_ldc C (z := 100000) cn_X6_112 (by decide +kernel) dX6_lay_282 ?_
                  refine fin 100000 (by decide) (by decide) ?_
                  have hbt : g.testBit s = true := by
                    rcases Bool.eq_false_or_eq_true (g.testBit s) with q | q
                    · exact q
                    · exact absurd (by rw [hb2.mpr q]; rfl) c239
                  rw [if_pos hbt]
                · refine r_aload_n C rfl dX6_lay_242 ?_
                  refine r_getR C 5 13 rfl rfl (by decide) rfl uw_X6 fl_X6_38 dX6_lay_243 ?_
                  refine r_bipush C (by decide +kernel) dX6_lay_246 ?_
                  refine r_iload C rfl dX6_lay_248 ?_
                  refine r_imul C dX6_lay_250 ?_
                  rw [Int.mul_comm (8 : Int)]
                  refine r_iload C rfl dX6_lay_251 ?_
                  refine r_iadd C dX6_lay_253 ?_
                  refine r_iaload C rfl (by decide) (by omega) dX6_lay_254 ?_
                  rw [e6.1]
                  refine r_aload_n C rfl dX6_lay_255 ?_
                  refine r_getR C 5 12 rfl rfl (by decide) rfl uw_X6 fl_X6_35 dX6_lay_256 ?_
                  refine r_sipush C (by decide +kernel) dX6_lay_259 ?_
                  refine r_iload C rfl dX6_lay_262 ?_
                  refine r_imul C dX6_lay_264 ?_
                  refine r_sipush C (by decide +kernel) dX6_lay_265 ?_
                  refine r_iadd C dX6_lay_268 ?_
                  refine r_iload C rfl dX6_lay_269 ?_
                  refine r_iconst C dX6_lay_271 ?_
                  refine r_iload C rfl dX6_lay_272 ?_
                  refine r_ishl C (b_shl8 s (by omega)) dX6_lay_274 ?_
                  refine r_ior C (b_or g (2 ^ s)) dX6_lay_275 ?_
                  refine r_iadd C dX6_lay_276 ?_
                  rw [ei2]
                  refine r_iaload C rfl (by decide) (by omega) dX6_lay_277 ?_
                  rw [e7]
                  refine r_iadd C dX6_lay_278 ?_
                  refine r_goto (tgt := 284) C (by decide) dX6_lay_279 ?_
                  refine fin _ (by omega) (by omega) ?_
                  have hbt : g.testBit s = false := hb2.mp (by omega)
                  rw [hbt]
                  simp
          refine r_iload C rfl dX6_lay_186 ?_
          refine r_iconst C dX6_lay_188 ?_
          refine r_aload_n C rfl dX6_lay_189 ?_
          refine r_getI (jz := 0) C 5 0 rfl rfl (by decide) rfl uw_X6 fl_X6_63 rfl dX6_lay_190 ?_
          rw [e0]
          refine r_ishl C (b_shl8 N (by omega)) dX6_lay_193 ?_
          refine r_icmp_ge (tgt := 330) C (by decide) (by omega) (by omega) dX6_lay_194 (fun c194 => ?_) (fun c194 => ?_)
          · omega
          · refine r_bipush C (by decide +kernel) dX6_lay_197 ?_
            refine r_aload_n C rfl dX6_lay_199 ?_
            refine r_getR C 5 12 rfl rfl (by decide) rfl uw_X6 fl_X6_35 dX6_lay_200 ?_
            refine r_sipush C (by decide +kernel) dX6_lay_203 ?_
            refine r_iload C rfl dX6_lay_206 ?_
            refine r_imul C dX6_lay_208 ?_
            refine r_sipush C (by decide +kernel) dX6_lay_209 ?_
            refine r_iadd C dX6_lay_212 ?_
            refine r_iload C rfl dX6_lay_213 ?_
            refine r_iadd C dX6_lay_215 ?_
            rw [ei]
            refine r_iaload C rfl (by decide) (by omega) dX6_lay_216 ?_
            rw [e5]
            refine r_iadd C dX6_lay_217 ?_
            refine r_istore (ls' := [_, _, _, _, _, _, _, _, _, _]) C (by decide) rfl rfl dX6_lay_218 ?_
            refine r_iconst C dX6_lay_220 ?_
            refine r_istore (ls' := [_, _, _, _, _, _, _, _, _, _]) C (by decide) rfl rfl dX6_lay_221 ?_
            exact lp5 N 0 (by omega)
      refine r_iload C rfl dX6_lay_178 ?_
      refine r_if_lt (tgt := 336) C (by decide) (by omega) dX6_lay_180 (fun c180 => ?_) (fun c180 => ?_)
      · omega
      · refine r_iconst C dX6_lay_183 ?_
        refine r_istore (ls' := [_, _, _, _, _, _, _, _, _, _]) C (by decide) rfl rfl dX6_lay_184 ?_
        exact lp4 (2 ^ N) 0 υ (by omega) hF hP hR (fun g' hg' => by omega)
  -- behind the last line nothing costs anything
  have lp2 : ∀ (w g : Nat) (υ : pw_H), g + w = 2 ^ N → Fm [8, 9, 10] σ υ → hPt υ (vM σ) t y h N n → (∀ g' : Nat, g' < g → υ 8 (256 * (n : Int) + g') = 0) → PW X shM G 140 [some (.ref (G.2.1 0)), some (vI (t : Int)), some (vI y), some (vI h), some (vI (n : Int)), some (vI (g : Int)), none, none, none, none] [] υ := by
    intro w
    induction w with
    | zero =>
      intro g υ hg hF hP hr
      have e0 : υ 0 0 = (N : Int) := (hF.2 0 (by decide) (by decide)).trans hNi
      have hgi : ((2 ^ N : Nat) : Int) ≤ (g : Int) := by omega
      refine r_iload C rfl dX6_lay_140 ?_
      refine r_iconst C dX6_lay_142 ?_
      refine r_aload_n C rfl dX6_lay_143 ?_
      refine r_getI (jz := 0) C 5 0 rfl rfl (by decide) rfl uw_X6 fl_X6_63 rfl dX6_lay_144 ?_
      rw [e0]
      refine r_ishl C (b_shl8 N (by omega)) dX6_lay_147 ?_
      refine r_icmp_ge (tgt := 172) C (by decide) (by omega) (by omega) dX6_lay_148 (fun c148 => ?_) (fun c148 => ?_)
      · refine r_iload C rfl dX6_lay_172 ?_
        refine r_iconst C dX6_lay_174 ?_
        refine r_isub C dX6_lay_175 ?_
        refine r_istore (ls' := [_, _, _, _, _, _, _, _, _, _]) C (by decide) rfl rfl dX6_lay_176 ?_
        refine lp3 n υ (Nat.le_refl n) hF hP (fun j j1 j2 G' hG' => ?_)
        have : j = n := by omega
        subst this
        rw [Nat.sub_self]
        exact hr G' (by omega)
      · omega
    | succ w ihw =>
      intro g υ hg hF hP hr
      have e0 : υ 0 0 = (N : Int) := (hF.2 0 (by decide) (by decide)).trans hNi
      have hgi : (g : Int) < ((2 ^ N : Nat) : Int) := by omega
      refine r_iload C rfl dX6_lay_140 ?_
      refine r_iconst C dX6_lay_142 ?_
      refine r_aload_n C rfl dX6_lay_143 ?_
      refine r_getI (jz := 0) C 5 0 rfl rfl (by decide) rfl uw_X6 fl_X6_63 rfl dX6_lay_144 ?_
      rw [e0]
      refine r_ishl C (b_shl8 N (by omega)) dX6_lay_147 ?_
      refine r_icmp_ge (tgt := 172) C (by decide) (by omega) (by omega) dX6_lay_148 (fun c148 => ?_) (fun c148 => ?_)
      · omega
      · refine r_aload_n C rfl dX6_lay_151 ?_
        refine r_getR C 5 12 rfl rfl (by decide) rfl uw_X6 fl_X6_35 dX6_lay_152 ?_
        refine r_sipush C (by decide +kernel) dX6_lay_155 ?_
        refine r_iload C rfl dX6_lay_158 ?_
        refine r_imul C dX6_lay_160 ?_
        refine r_iload C rfl dX6_lay_161 ?_
        refine r_iadd C dX6_lay_163 ?_
        refine r_iconst C dX6_lay_164 ?_
        refine r_iastore C rfl (by decide) (by omega) dX6_lay_165 ?_
        refine r_iinc (ls' := [_, _, _, _, _, _, _, _, _, _]) C rfl (by decide) rfl rfl dX6_lay_166 ?_
        refine r_goto (tgt := 140) C (by decide) dX6_lay_169 ?_
        refine ihw (g + 1) _ (by omega) (hF.tr (Fm.u (by decide) (by decide)) (fun _ q => q) (fun _ q => q)) (fun j j1 s s1 => by rw [pw_u_k (by decide), pw_u_k (by decide)]; exact hP j j1 s s1) (fun g' hg' => ?_)
        by_cases q : g' = g
        · subst q; rw [pw_u_s]
        · rw [pw_u_j (by omega)]; exact hr g' (by omega)
  -- the table of pairs
  have lp1 : ∀ (w i : Nat) (υ : pw_H), i + w = n → Fm [8, 9, 10] σ υ → hPt υ (vM σ) t y h N i → PW X shM G 11 [some (.ref (G.2.1 0)), some (vI (t : Int)), some (vI y), some (vI h), some (vI (n : Int)), some (vI (i : Int)), none, none, none, none] [] υ := by
    intro w
    induction w with
    | zero =>
      intro i υ hi hF hP
      have ein : i = n := by omega
      subst ein
      refine r_iload C rfl dX6_lay_11 ?_
      refine r_iload C rfl dX6_lay_13 ?_
      refine r_icmp_ge (tgt := 137) C (by decide) (by omega) (by omega) dX6_lay_15 (fun c15 => ?_) (fun c15 => ?_)
      · refine r_iconst C dX6_lay_137 ?_
        refine r_istore (ls' := [_, _, _, _, _, _, _, _, _, _]) C (by decide) rfl rfl dX6_lay_138 ?_
        exact lp2 (2 ^ N) 0 υ (by omega) hF hP (fun g' hg' => by omega)
      · omega
    | succ w ih =>
      intro i υ hi hF hP
      have hi8 : i < 8 := by omega
      have lp0 : ∀ (v s : Nat) (υ : pw_H), s + v = N → Fm [8, 9, 10] σ υ → hPt υ (vM σ) t y h N i → (∀ s' : Nat, s' < s → υ 9 ((i : Int) * 8 + s') = sC (vM σ) t y h i s' ∧ υ 10 ((i : Int) * 8 + s') = sSl (vM σ) t y h i s') → PW X shM G 21 [some (.ref (G.2.1 0)), some (vI (t : Int)), some (vI y), some (vI h), some (vI (n : Int)), some (vI (i : Int)), some (vI (s : Int)), none, none, none] [] υ := by
        intro v
        induction v with
        | zero =>
          intro s υ hs hF hP hrow
          have e0 : υ 0 0 = (N : Int) := (hF.2 0 (by decide) (by decide)).trans hNi
          refine r_iload C rfl dX6_lay_21 ?_
          refine r_aload_n C rfl dX6_lay_23 ?_
          refine r_getI (jz := 0) C 5 0 rfl rfl (by decide) rfl uw_X6 fl_X6_63 rfl dX6_lay_24 ?_
          refine r_icmp_ge (tgt := 131) C (by decide) (by omega) (by omega) dX6_lay_27 (fun c27 => ?_) (fun c27 => ?_)
          · refine r_iinc (ls' := [_, _, _, _, _, _, _, _, _, _]) C rfl (by decide) rfl rfl dX6_lay_131 ?_
            refine r_goto (tgt := 11) C (by decide) dX6_lay_134 ?_
            refine PW_lw [true, true, true, true, true, true, false, false, false, false] (ih (i + 1) υ (by omega) hF (fun j j1 s' s1 => ?_)) rfl
            by_cases q : j = i
            · subst q; exact hrow s' (by omega)
            · exact hP j (by omega) s' s1
          · omega
        | succ v ihv =>
          intro s υ hs hF hP hrow
          have e0 : υ 0 0 = (N : Int) := (hF.2 0 (by decide) (by decide)).trans hNi
          have e2 : vM υ = vM σ := hF.vM (by decide)
          refine r_iload C rfl dX6_lay_21 ?_
          refine r_aload_n C rfl dX6_lay_23 ?_
          refine r_getI (jz := 0) C 5 0 rfl rfl (by decide) rfl uw_X6 fl_X6_63 rfl dX6_lay_24 ?_
          refine r_icmp_ge (tgt := 131) C (by decide) (by omega) (by omega) dX6_lay_27 (fun c27 => ?_) (fun c27 => ?_)
          · omega
          · refine r_aload_n C rfl dX6_lay_30 ?_
            refine r_iload_n C rfl dX6_lay_31 ?_
            refine r_iload C rfl dX6_lay_32 ?_
            refine r_iload C rfl dX6_lay_34 ?_
            refine r_iload_n C rfl dX6_lay_36 ?_
            refine r_iload_n C rfl dX6_lay_37 ?_
            refine r_callV (As := [_, _, _, _, _]) C (c_X6_face _ _ _ (e2 ▸ hI) (by omega) (by omega) (by omega) hy hh) ok_X6_face ln_X6_120 rfl rfl rfl rfl (Nat.le_of_ble_eq_true rfl) (Nat.le_of_ble_eq_true rfl) (Nat.le_of_ble_eq_true rfl) dX6_lay_38 (fun v38 τ38 hq38 => ?_)
            obtain ⟨rfl, hF2, hR⟩ := hq38
            rw [e2] at hR
            have hF3 : Fm [8, 9, 10] σ τ38 := hF.tr hF2 (fun _ q => q) (fun _ q => by cases q)
            have hr2 : (-9 ≤ τ38 0 10 ∧ τ38 0 10 ≤ 3) ∧ 0 ≤ τ38 0 11 ∧ τ38 0 11 ≤ 100000 := by rcases hR with z | z <;> omega
            have e4 : τ38 4 s = σ 4 s := congrFun (hF3.1 4 (by decide) (by decide)) _
            have e5 : τ38 0 5 = σ 0 5 := hF3.2 5 (by decide) (by decide)
            have b4 : 0 ≤ σ 4 s ∧ σ 4 s ≤ 6 := hI.2.2.2.2.2.2.1 _
            have b5 : 0 ≤ σ 0 5 ∧ σ 0 5 ≤ 6 := hI.2.1
            have e9 : τ38 9 = υ 9 := hF2.1 9 (by decide) (by decide)
            have e10 : τ38 10 = υ 10 := hF2.1 10 (by decide) (by decide)
            have mid : ∀ b : Bool, b = sF (vM σ) t y h i s → PW X shM G 69 [some (.ref (G.2.1 0)), some (vI (t : Int)), some (vI y), some (vI h), some (vI (n : Int)), some (vI (i : Int)), some (vI (s : Int)), none, none, none] [vI (zB b)] τ38 := by
              intro b hb
              have hval : (if b = true then τ38 0 11 else 100000) = sC (vM σ) t y h i s ∧ (if b = true then τ38 0 10 else -9) = sSl (vM σ) t y h i s := by
                cases hbb : b with
                | false => rw [hbb] at hb; unfold sC sSl; rw [← hb]; simp
                | true =>
                  rw [hbb] at hb
                  have q1 := sC_t hb.symm
                  unfold sSl
                  rw [← hb, q1.1]
                  simp only [if_true]
                  rcases hR with ⟨z1, z2, z3⟩ | ⟨z1, z2, z3, z4⟩
                  · exfalso; omega
                  · exact ⟨z4, z3⟩
              have next : ∀ c f : Int, c = sC (vM σ) t y h i s → f = sSl (vM σ) t y h i s → PW X shM G 21 [some (.ref (G.2.1 0)), some (vI (t : Int)), some (vI y), some (vI h), some (vI (n : Int)), some (vI (i : Int)), some (vI ((s : Int) + 1)), none, none, none] [] (pw_u (pw_u τ38 9 ((i : Int) * 8 + s) c) 10 ((i : Int) * 8 + s) f) := by
                intro c f hc hf
                refine ihv (s + 1) _ (by omega) ((hF3.tr (Fm.u (ks := [8, 9, 10]) (by decide) (by decide)) (fun _ q => q) (fun _ q => q)).tr (Fm.u (by decide) (by decide)) (fun _ q => q) (fun _ q => q)) (fun j j1 s' s1 => ?_) (fun s' s1 => ?_)
                · have := hP j j1 s' s1
                  rw [pw_u_k (by decide), pw_u_j (by omega), pw_u_j (by omega), pw_u_k (by decide), e9, e10]
                  exact this
                · by_cases q : s' = s
                  · subst q
                    rw [pw_u_k (by decide), pw_u_s, pw_u_s]
                    exact ⟨hc, hf⟩
                  · rw [pw_u_k (by decide), pw_u_j (by omega), pw_u_j (by omega), pw_u_k (by decide), e9, e10]
                    exact hrow s' (by omega)
              refine r_istore (ls' := [_, _, _, _, _, _, _, _, _, _]) C (by decide) rfl rfl dX6_lay_69 ?_
              refine r_aload_n C rfl dX6_lay_71 ?_
              refine r_getR C 5 13 rfl rfl (by decide) rfl uw_X6 fl_X6_38 dX6_lay_72 ?_
              refine r_bipush C (by decide +kernel) dX6_lay_75 ?_
              refine r_iload C rfl dX6_lay_77 ?_
              refine r_imul C dX6_lay_79 ?_
              rw [Int.mul_comm (8 : Int)]
              refine r_iload C rfl dX6_lay_80 ?_
              refine r_iadd C dX6_lay_82 ?_
              refine r_iload C rfl dX6_lay_83 ?_
              refine r_ifB_eq (tgt := 95) C (by decide) dX6_lay_85 (fun c85 => ?_) (fun c85 => ?_)
              · refine r_ldc C (z := 100000) cn_X6_112 (by decide +kernel) dX6_lay_95 ?_
                refine r_iastore C rfl (by decide) (by omega) dX6_lay_97 ?_
                refine r_aload_n C rfl dX6_lay_98 ?_
                refine r_getR C 5 14 rfl rfl (by decide) rfl uw_X6 fl_X6_41 dX6_lay_99 ?_
                refine r_bipush C (by decide +kernel) dX6_lay_102 ?_
                refine r_iload C rfl dX6_lay_104 ?_
                refine r_imul C dX6_lay_106 ?_
                rw [Int.mul_comm (8 : Int)]
                refine r_iload C rfl dX6_lay_107 ?_
                refine r_iadd C dX6_lay_109 ?_
                refine r_iload C rfl dX6_lay_110 ?_
                refine r_ifB_eq (tgt := 122) C (by decide) dX6_lay_112 (fun c112 => ?_) (fun c112 => ?_)
                · refine r_bipush C (by decide +kernel) dX6_lay_122 ?_
                  refine r_iastore C rfl (by decide) (by omega) dX6_lay_124 ?_
                  refine r_iinc (ls' := [_, _, _, _, _, _, _, _, _, _]) C rfl (by decide) rfl rfl dX6_lay_125 ?_
                  refine r_goto (tgt := 21) C (by decide) dX6_lay_128 ?_
                  first | (rw [c85] at c112; cases c112; done) | exact PW_lw [true, true, true, true, true, true, true, false, false, false] (next _ _ (by rw [c85] at hval; exact hval.1) (by rw [c85] at hval; exact hval.2)) rfl
                · refine r_aload_n C rfl dX6_lay_115 ?_
                  refine r_getI (jz := 10) C 5 10 rfl rfl (by decide) rfl uw_X6 fl_X6_109 rfl dX6_lay_116 ?_
                  try simp (disch := decide) only [pw_u_k, pw_u_j, pw_u_s]
                  refine r_goto (tgt := 124) C (by decide) dX6_lay_119 ?_
                  refine r_iastore C rfl (by decide) (by omega) dX6_lay_124 ?_
                  refine r_iinc (ls' := [_, _, _, _, _, _, _, _, _, _]) C rfl (by decide) rfl rfl dX6_lay_125 ?_
                  refine r_goto (tgt := 21) C (by decide) dX6_lay_128 ?_
                  first | (rw [c85] at c112; cases c112; done) | exact PW_lw [true, true, true, true, true, true, true, false, false, false] (next _ _ (by rw [c85] at hval; exact hval.1) (by rw [c85] at hval; exact hval.2)) rfl
              · refine r_aload_n C rfl dX6_lay_88 ?_
                refine r_getI (jz := 11) C 5 11 rfl rfl (by decide) rfl uw_X6 fl_X6_106 rfl dX6_lay_89 ?_
                refine r_goto (tgt := 97) C (by decide) dX6_lay_92 ?_
                refine r_iastore C rfl (by decide) (by omega) dX6_lay_97 ?_
                refine r_aload_n C rfl dX6_lay_98 ?_
                refine r_getR C 5 14 rfl rfl (by decide) rfl uw_X6 fl_X6_41 dX6_lay_99 ?_
                refine r_bipush C (by decide +kernel) dX6_lay_102 ?_
                refine r_iload C rfl dX6_lay_104 ?_
                refine r_imul C dX6_lay_106 ?_
                rw [Int.mul_comm (8 : Int)]
                refine r_iload C rfl dX6_lay_107 ?_
                refine r_iadd C dX6_lay_109 ?_
                refine r_iload C rfl dX6_lay_110 ?_
                refine r_ifB_eq (tgt := 122) C (by decide) dX6_lay_112 (fun c112 => ?_) (fun c112 => ?_)
                · refine r_bipush C (by decide +kernel) dX6_lay_122 ?_
                  refine r_iastore C rfl (by decide) (by omega) dX6_lay_124 ?_
                  refine r_iinc (ls' := [_, _, _, _, _, _, _, _, _, _]) C rfl (by decide) rfl rfl dX6_lay_125 ?_
                  refine r_goto (tgt := 21) C (by decide) dX6_lay_128 ?_
                  first | (rw [c85] at c112; cases c112; done) | exact PW_lw [true, true, true, true, true, true, true, false, false, false] (next _ _ (by rw [c85] at hval; exact hval.1) (by rw [c85] at hval; exact hval.2)) rfl
                · refine r_aload_n C rfl dX6_lay_115 ?_
                  refine r_getI (jz := 10) C 5 10 rfl rfl (by decide) rfl uw_X6 fl_X6_109 rfl dX6_lay_116 ?_
                  try simp (disch := decide) only [pw_u_k, pw_u_j, pw_u_s]
                  refine r_goto (tgt := 124) C (by decide) dX6_lay_119 ?_
                  refine r_iastore C rfl (by decide) (by omega) dX6_lay_124 ?_
                  refine r_iinc (ls' := [_, _, _, _, _, _, _, _, _, _]) C rfl (by decide) rfl rfl dX6_lay_125 ?_
                  refine r_goto (tgt := 21) C (by decide) dX6_lay_128 ?_
                  first | (rw [c85] at c112; cases c112; done) | exact PW_lw [true, true, true, true, true, true, true, false, false, false] (next _ _ (by rw [c85] at hval; exact hval.1) (by rw [c85] at hval; exact hval.2)) rfl
            refine r_aload_n C rfl dX6_lay_41 ?_
            refine r_getI (jz := 10) C 5 10 rfl rfl (by decide) rfl uw_X6 fl_X6_109 rfl dX6_lay_42 ?_
            refine r_bipush C (by decide +kernel) dX6_lay_45 ?_
            refine r_icmp_eq (tgt := 68) C (by decide) (by omega) (by omega) dX6_lay_47 (fun c47 => ?_) (fun c47 => ?_)
            · refine r_iconst C dX6_lay_68 ?_
              refine mid false ?_
              have q : sRk (vM σ) t i s y h = 1048576 := by rcases hR with z | z <;> omega
              unfold sF
              rw [decide_eq_true q]; simp
            · refine r_aload_n C rfl dX6_lay_50 ?_
              refine r_getR C 5 4 rfl rfl (by decide) rfl uw_X6 fl_X6_19 dX6_lay_51 ?_
              refine r_iload C rfl dX6_lay_54 ?_
              refine r_iaload C rfl (by decide) (by omega) dX6_lay_56 ?_
              rw [e4]
              refine r_aload_n C rfl dX6_lay_57 ?_
              refine r_getI (jz := 5) C 5 5 rfl rfl (by decide) rfl uw_X6 fl_X6_22 rfl dX6_lay_58 ?_
              rw [e5]
              refine r_icmp_gt (tgt := 68) C (by decide) (by omega) (by omega) dX6_lay_61 (fun c61 => ?_) (fun c61 => ?_)
              · refine r_iconst C dX6_lay_68 ?_
                refine mid false ?_
                unfold sF
                rw [decide_eq_false (show ¬ vM σ 4 s ≤ vM σ 0 1 from (by omega : ¬ σ 4 s ≤ σ 0 5))]; rfl
              · refine r_iconst C dX6_lay_64 ?_
                refine r_goto (tgt := 69) C (by decide) dX6_lay_65 ?_
                refine mid true ?_
                have q : ¬ sRk (vM σ) t i s y h = 1048576 := by rcases hR with z | z <;> omega
                unfold sF
                rw [decide_eq_true (show vM σ 4 s ≤ vM σ 0 1 from (by omega : σ 4 s ≤ σ 0 5)), decide_eq_false q]; rfl
      refine r_iload C rfl dX6_lay_11 ?_
      refine r_iload C rfl dX6_lay_13 ?_
      refine r_icmp_ge (tgt := 137) C (by decide) (by omega) (by omega) dX6_lay_15 (fun c15 => ?_) (fun c15 => ?_)
      · omega
      · refine r_iconst C dX6_lay_18 ?_
        refine r_istore (ls' := [_, _, _, _, _, _, _, _, _, _]) C (by decide) rfl rfl dX6_lay_19 ?_
        exact lp0 N 0 υ (by omega) hF hP (fun s' s1 => by omega)
  refine r_aload_n C rfl dX6_lay_0 ?_
  refine r_getR C 5 7 rfl rfl (by decide) rfl uw_X6 fl_X6_26 dX6_lay_1 ?_
  refine r_iload_n C rfl dX6_lay_4 ?_
  refine r_iaload C rfl (by decide) (by omega) dX6_lay_5 ?_
  rw [hni]
  refine r_istore (ls' := [_, _, _, _, _, _, _, _, _, _]) C (by decide) rfl rfl dX6_lay_6 ?_
  refine r_iconst C dX6_lay_8 ?_
  refine r_istore (ls' := [_, _, _, _, _, _, _, _, _, _]) C (by decide) rfl rfl dX6_lay_9 ?_
  exact lp1 n 0 σ (by omega) Fm.rf (fun j j1 => by omega)
