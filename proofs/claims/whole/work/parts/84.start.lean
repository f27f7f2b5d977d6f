theorem va_D_fst {A : Nat → Prop} {w w' : va_W} (e : w'.map Prod.fst = w.map Prod.fst) (hD : va_D A w) : va_D A w' := by
  have k : ∀ (k : Nat) (q : Nat × va_E), w'[k]? = some q → ∃ q', w[k]? = some q' ∧ q'.1 = q.1 := by
    intro k q hq
    have h1 : (w'.map Prod.fst)[k]? = some q.1 := by rw [List.getElem?_map, hq]; rfl
    rw [e, List.getElem?_map, Option.map_eq_some_iff] at h1
    exact h1
  refine ⟨fun i j p q hp hq hpq => ?_, fun i q hq => ?_⟩
  · obtain ⟨p', h1, e1⟩ := k i p hp
    obtain ⟨q', h2, e2⟩ := k j q hq
    exact hD.1 i j p' q' h1 h2 (by rw [e1, e2, hpq])
  · obtain ⟨q', h2, e2⟩ := k i q hq
    exact e2 ▸ hD.2 i q' h2
theorem pw_w_fst (sh : pw_S) (G : pw_G) (σ τ : pw_H) : (pw_w sh G σ).map Prod.fst = (pw_w sh G τ).map Prod.fst := by
  apply List.ext_getElem?
  intro i
  simp only [pw_w, List.getElem?_map, List.getElem?_mapIdx, Option.map_map]
  rfl
theorem Lw_dom {A : Nat → Prop} {G : pw_G} {gm : Nat → Nat} {σ μ σ' μ' : pw_H} (hD : va_D A (Lw G gm σ μ)) : va_D A (Lw G gm σ' μ') := by
  refine va_D_fst ?_ hD
  unfold Lw
  rw [List.map_append, List.map_append, pw_w_fst shX G σ' σ, pw_w_fst shM (GM G gm) μ' μ]
theorem l_arr {s : State} {args : Array Value} {ty : FieldType} (h : (Cond.arrayClass ty).before args s = true) : ∃ cA : ClassId, ArrOfT s cA ty ∧ s.vm.findClass ("[" ++ ty.toString) = some cA := by
  obtain ⟨cA, kA, comp, h1, h2, h3⟩ := Cond.arrayClass_spec h
  exact ⟨cA, fun n z => ⟨fun k h => (by cases h), kA, h2, comp, h3⟩, h1⟩
theorem l_cls {s : State} {args : Array Value} (hts : ∀ w ∈ ALLW, w.before args s = true) : ∃ D : va_G, ∀ (k : Nat) (q : vw_C), vwCl[k]? = some q → u_Kn s q.1 q.2.1 q.2.2 (D.1 k) (D.2 k) := by
  obtain ⟨c0, i0, k0⟩ := u_known (C := RX0) (T := TX0) (N := 8) (n := 8) hts uw_X0 (hts _ (big 196 (by decide +kernel)))
  obtain ⟨c1, i1, k1⟩ := u_known (C := RX1) (T := TX1) (N := 10) (n := 10) hts uw_X1 (hts _ (big 193 (by decide +kernel)))
  obtain ⟨c2, i2, k2⟩ := u_known (C := RX2) (T := TX2) (N := 4) (n := 4) hts uw_X2 (hts _ (big 190 (by decide +kernel)))
  obtain ⟨c3, i3, k3⟩ := u_known (C := RX4) (T := TX4) (N := 6) (n := 6) hts uw_X4 (hts _ (big 187 (by decide +kernel)))
  obtain ⟨c4, i4, k4⟩ := u_known (C := RX5) (T := TX5) (N := 5) (n := 5) hts uw_X5 (hts _ (big 457 (by decide +kernel)))
  obtain ⟨c5, i5, k5⟩ := u_known (C := RX6) (T := TX6) (N := 20) (n := 20) hts uw_X6 (hts _ (big 459 (by decide +kernel)))
  refine ⟨(fun k => match k with | 0 => c0 | 1 => c1 | 2 => c2 | 3 => c3 | 4 => c4 | _ => c5, fun k => match k with | 0 => i0 | 1 => i1 | 2 => i2 | 3 => i3 | 4 => i4 | _ => i5), ?_⟩
  intro k q hq
  match k, hq with
  | 0, hq => cases hq; exact k0
  | 1, hq => cases hq; exact k1
  | 2, hq => cases hq; exact k2
  | 3, hq => cases hq; exact k3
  | 4, hq => cases hq; exact k4
  | 5, hq => cases hq; exact k5
  | k + 6, hq => simp [vwCl] at hq
set_option maxRecDepth 100000 in
set_option maxHeartbeats 8000000 in
/-- YOUR PART: from the entry, for every script of at most 3072 ints, the law comes to its end with true -/
theorem whole_start {p : Program} {e : Env} {s : State} {m : MethodId} {below : List Frame} {meth : Method} {c : Code} (l : Launch) (hflags : l.flags = flags0) {b L : Nat} {xs : Nat → Int32} (hL : L ≤ 3072) (C0 : lw_At p s m meth c b L xs) : W p l e room_1 s m #[Value.ref b] below meth c s.heap [] 0 0 (lw_Z below #[Value.ref b] s) (entryFrame m ([Value.ref b] : List Value).toArray 4) := by
  obtain ⟨hx, hb, hr, hml, hown, htb, hX, hbl, hlk, hgv⟩ := id C0
  have hts : ∀ w ∈ ALLW, w.before #[Value.ref b] s = true := fun w hw => htb w (aw_ALL w hw)
  have hown : s.vm.findClass RL = some m.cls := hown
  obtain ⟨D, hKc⟩ := l_cls hts
  obtain ⟨cI, aI, nI⟩ := l_arr (hts (.arrayClass .int) (big 4 (by decide +kernel)))
  obtain ⟨cJ, aJ, nJ⟩ := l_arr (hts (.arrayClass .long) (big 153 (by decide +kernel)))
  have hK0 : pw_K (D, (fun _ => 0), cI, cJ) s := by
    refine ⟨⟨hKc, fun k q hq => ?_⟩, va_Nw.of rfl (htb _ anw_0)⟩
    match k, hq with
    | 0, hq => cases hq; exact ⟨aI, nI⟩
    | 1, hq => cases hq; exact ⟨aJ, nJ⟩
    | k + 2, hq => simp [pw_tys] at hq
  have hN0 : pw_N (D, (fun _ => 0), cI, cJ) s := ⟨hK0, va_Nw.of rfl (htb _ anw_1), va_Nw.of rfl (htb _ anw_2)⟩
  generalize hG0 : ((D, (fun _ => 0), cI, cJ) : pw_G) = G0 at hK0 hN0
  have hA : ∀ q : Nat, s.heap.size ≤ q → l_A s q := fun _ h => h
  have hS : va_S (l_A s) s.heap s.heap [] := va_S.rf
  have hP : va_P G0.1 vwCl [] s.heap := fun k q h => by simp at h
  have hD : va_D (l_A s) [] := ⟨fun i j p q h => by simp at h, fun k q h => by simp at h⟩
  have hl := lv_entry ([.ref b]) (n := 4) (Nat.le_of_ble_eq_true rfl)
  rw [lg_entry_eq]
  generalize (lg_sl ([.ref b]) ++ List.replicate (4 - (lg_sl ([.ref b])).length) Slot.unset).toArray = ls at hl ⊢
  have hl : lv_has ls 4 (pw_l 0 [some (.ref b), none, none, none]) := hl
  refine va_new (D := G0.1) (ci := 4) (fs := [.null, .null, .null, .null, .null]) (C := RX5) (T := TX5) (N := 5) hx hb hts uw_X5 tyX5 tyX5_ok hown (hts _ (big 456 (by decide +kernel))) (hts _ (big 457 (by decide +kernel))) (hts _ (big 58 (by decide +kernel))) hN0.1.1 hP hD hS hA rfl (fun j hj => by rcases (show j = 0 ∨ j = 1 ∨ j = 2 ∨ j = 3 ∨ j = 4 by omega) with rfl | rfl | rfl | rfl | rfl <;> rfl) (Nat.le_of_ble_eq_true rfl) (Nat.le_of_ble_eq_true rfl) dL_law_0 (fun q0 H hP hD hS => ?_)
  refine lv_dup hx hb dL_law_3 rfl ?_
  have hPc : va_P G0.1 vwCl [(q0, .inr (4, [.null, .null, .null, .null, .null]))] H := hP
  have hDc : va_D (l_A s) [(q0, .inr (4, [.null, .null, .null, .null, .null]))] := hD
  have hFc := va_free (wc := [(q0, .inr (4, [.null, .null, .null, .null, .null]))]) hDc hS hA [0] rfl
  refine va_callv (va_runI (As := []) (rest := [.ref q0]) ⟨hx, hb, hml, hown, hts⟩ (c_X5_init l G0 q0 H.size) (cwI (bytes := cX5_init) (maxL := 1) 0 hts ok_X5_init.good rfl rfl rfl (hts _ ok_X5_init.1) (hts _ (big 460 (by decide +kernel))) (hts _ (big 461 (by decide +kernel))) rfl (by decide +kernel) ⟨Nat.le_of_ble_eq_true rfl, Nat.le_of_ble_eq_true rfl⟩) ⟨NP.blind, fun U hU hW => ⟨rfl, by rw [hU], by rw [hU]; exact hPc, hN0.alike hW, hDc.weaken (fun _ _ _ _ => trivial)⟩⟩ rfl rfl hl.1 rfl (lv_room (Nat.le_of_ble_eq_true rfl)) dL_law_4 ⟨Nat.le_of_ble_eq_true rfl, Nat.le_of_ble_eq_true rfl⟩) hS (fun q _ h => hFc q h) hFc (fun ad5 t H1 locs ht hvm _ hB hz1 hk1 hS => ?_)
  obtain ⟨hP1, hD1⟩ := hB
  rw [ht] at hP1
  obtain ⟨hP, hD⟩ := va_join (wr := []) (w1 := BX5_init G0 q0 ad5) hPc hDc [0] [] rfl rfl (by decide) (by decide) hk1 hFc hP1 hD1
  have hP : va_P G0.1 vwCl (BX5_init G0 q0 ad5) H1 := hP
  have hD : va_D (l_A s) (BX5_init G0 q0 ad5) := hD
  refine lv_astore_n hx hb dL_law_7 rfl hl (by decide) rfl (fun ls hl => ?_)
  have hl : lv_has ls 4 (pw_l 0 [some (.ref b), some (.ref q0), none, none]) := pw_s1 (ls := [some (.ref b), none, none, none]) (i := 1) rfl hl
  refine va_new (D := G0.1) (ci := 5) (fs := [.int 0, .null, .null, .null, .null, .int 0, .int 0, .null, .null, .null, .int 0, .int 0, .null, .null, .null, .null, .null, .null, .null, .null]) (C := RX6) (T := TX6) (N := 20) hx hb hts uw_X6 tyX6 tyX6_ok hown (hts _ (big 458 (by decide +kernel))) (hts _ (big 459 (by decide +kernel))) (hts _ (big 343 (by decide +kernel))) hN0.1.1 hP hD hS hA rfl (fun j hj => by rcases (show j = 0 ∨ j = 1 ∨ j = 2 ∨ j = 3 ∨ j = 4 ∨ j = 5 ∨ j = 6 ∨ j = 7 ∨ j = 8 ∨ j = 9 ∨ j = 10 ∨ j = 11 ∨ j = 12 ∨ j = 13 ∨ j = 14 ∨ j = 15 ∨ j = 16 ∨ j = 17 ∨ j = 18 ∨ j = 19 by omega) with rfl | rfl | rfl | rfl | rfl | rfl | rfl | rfl | rfl | rfl | rfl | rfl | rfl | rfl | rfl | rfl | rfl | rfl | rfl | rfl <;> rfl) (Nat.le_of_ble_eq_true rfl) (Nat.le_of_ble_eq_true rfl) dL_law_8 (fun q8 H2 hP hD hS => ?_)
  refine lv_dup hx hb dL_law_11 rfl ?_
  have hPc := hP.sub (ws' := [(q8, .inr (5, [.int 0, .null, .null, .null, .null, .int 0, .int 0, .null, .null, .null, .int 0, .int 0, .null, .null, .null, .null, .null, .null, .null, .null]))]) [22] rfl
  have hDc := hD.sub (ws' := [(q8, .inr (5, [.int 0, .null, .null, .null, .null, .int 0, .int 0, .null, .null, .null, .int 0, .int 0, .null, .null, .null, .null, .null, .null, .null, .null]))]) [22] (by decide) rfl
  have hFc := va_free (wc := [(q8, .inr (5, [.int 0, .null, .null, .null, .null, .int 0, .int 0, .null, .null, .null, .int 0, .int 0, .null, .null, .null, .null, .null, .null, .null, .null]))]) hD hS hA [22] rfl
  refine va_callv (va_runI (As := []) (rest := [.ref q8]) ⟨hx, hb, hml, hown, hts⟩ (c_X6_init l G0 q8 H2.size) (cwI (bytes := cX6_init) (maxL := 1) 0 hts ok_X6_init.good rfl rfl rfl (hts _ ok_X6_init.1) (hts _ (big 462 (by decide +kernel))) (hts _ (big 463 (by decide +kernel))) rfl (by decide +kernel) ⟨Nat.le_of_ble_eq_true rfl, Nat.le_of_ble_eq_true rfl⟩) ⟨NP.blind, fun U hU hW => ⟨rfl, by rw [hU], by rw [hU]; exact hPc, hN0.alike hW, hDc.weaken (fun _ _ _ _ => trivial)⟩⟩ rfl rfl hl.1 rfl (lv_room (Nat.le_of_ble_eq_true rfl)) dL_law_12 ⟨Nat.le_of_ble_eq_true rfl, Nat.le_of_ble_eq_true rfl⟩) hS (fun q _ h => hFc q h) hFc (fun ad6 t2 H3 locs2 ht2 hvm2 _ hB hz2 hk2 hS => ?_)
  obtain ⟨hP1, hD1⟩ := hB
  rw [ht2] at hP1
  obtain ⟨hP, hD⟩ := va_join (wr := BX5_init G0 q0 ad5) (w1 := BX6_init G0 q8 ad6) hP hD [22] (List.range 22) rfl rfl (by decide) (by decide) hk2 hFc hP1 hD1
  refine lv_astore_n hx hb dL_law_15 rfl hl (by decide) rfl (fun ls hl => ?_)
  have hl : lv_has ls 4 (pw_l 0 [some (.ref b), some (.ref q0), some (.ref q8), none]) := pw_s1 (ls := [some (.ref b), some (.ref q0), none, none]) (i := 2) rfl hl
  refine lv_iconst (v := 0) hx hb dL_law_16 (by decide) ?_
  refine lv_istore_n hx hb dL_law_17 rfl hl (by decide) rfl (fun ls hl => ?_)
  have hl : lv_has ls 4 (pw_l 0 [some (.ref b), some (.ref q0), some (.ref q8), some (vI 0)]) := pw_s1 (ls := [some (.ref b), some (.ref q0), some (.ref q8), none]) (i := 3) (v := vI 0) rfl hl
  have eX := w0X G0 q0 ad5
  have eM := w0M G0 q8 ad6
  have hW : Lw (G0.1, g_of q0 ad5, G0.2.2) (g_of q8 ad6) s0X s0M = BX5_init G0 q0 ad5 ++ BX6_init G0 q8 ad6 := by rw [← eX, ← eM]; rfl
  rw [← hW] at hP hD
  have hKG : pw_K (G0.1, g_of q0 ad5, G0.2.2) s := hN0.1
  have C1 : LC (p, l, e, s, m, below, meth, c) (G0.1, g_of q0 ad5, G0.2.2) (g_of q8 ad6) b L xs := ⟨hx, hb, hr, hml, hown, hts, hX, hbl, hlk, hKG, fun σ μ => Lw_dom hD⟩
  exact law_loop C1 hL (L + 1) 0 s0X s0M (by omega) (by omega) s0_inv s0_eq H3 locs2 ls hl hP hS
