/-! constructors: the judgement over a world that grows -/
abbrev nw_1 : Cond := .methodLinkNest RX5 9 yX4_init RX5
abbrev nw_2 : Cond := .methodLinkNest RX5 18 yX2_init RX5
def pw_N (G : pw_G) (U : State) : Prop := pw_K G U ∧ va_Nw nw_1 U ∧ va_Nw nw_2 U
theorem pw_N.alike {G : pw_G} {u U : State} (hW : u.WarmedH U.vm) (h : pw_N G u) : pw_N G U := ⟨h.1.alike hW, va_Nw.warmM hW h.2.1, va_Nw.warmM hW h.2.2⟩
theorem pw_N.same {G : pw_G} {u : State} {g : JFrame} {mk : MethodId} {a : Array Value} (h : pw_N G u) : pw_N G (u.calling g mk a) := ⟨h.1.same, va_Nw.same rfl rfl h.2.1, va_Nw.same rfl rfl h.2.2⟩
def NQ (G : pw_G) (B : (Nat → Nat) → va_W) (A : Nat → Prop) : Array Value → State → Outcome → State → Prop := va_Qv (fun _ : Nat → Nat => True) (fun ad t => va_P G.1 vwCl (B ad) t.heap ∧ va_D A (B ad)) A
def NP (G : pw_G) (w0 : va_W) (sz : Nat) (U : State) : Prop := U.heap.size = sz ∧ va_P G.1 vwCl w0 U.heap ∧ pw_N G U ∧ va_D (fun _ => True) w0
abbrev MB.nrm (M : MB) (nc ns : Nat) : Room := { frames := M.2.2.2.2.1, cells := nc, slots := ns, locals := M.2.2.2.2.2.1 }
/-- a constructor's contract: out of the world w0 comes the world B of some addresses; it makes nc cells of ns slots in all -/
def Nt (l : Launch) (G : pw_G) (M : MB) (nc ns : Nat) (As : List Value) (w0 : va_W) (B : (Nat → Nat) → va_W) : Prop :=
  ∀ sz : Nat, Met l M.1 (MB.ws M) (MB.nrm M nc ns) (va_Pc As (NP G w0 sz)) (NQ G B (va_A w0 sz)) nc ns (va_A w0 sz)
def NC (X : PXT) (G : pw_G) (M : MB) (nc ns : Nat) (B : (Nat → Nat) → va_W) : Prop := match X with
  | (p, l, e, R, s, m, args, below, meth, c, A, Z, n) => p.tables.exec = Jvm.exec ∧ c.code = M.2.1 ∧ (c.maxLocals = M.2.2.1 ∧ n = M.2.2.1) ∧ s.vm.findClass M.1.cls = some m.cls ∧ (∀ w ∈ ALLW, w.before args s = true) ∧ meth.sig.returnType = M.2.2.2.1 ∧ meth.locks = false ∧ pw_N G s ∧ meth.name = M.1.name ∧ (∀ q, s.heap.size ≤ q → A q) ∧ (R.frames = M.2.2.2.2.1 ∧ R.locals = M.2.2.2.2.2.1 ∧ R.cells = nc ∧ R.slots = ns) ∧ Z = MQ below (NQ G B A) args s nc ns A
def NW (X : PXT) (G : pw_G) (ws : va_W) (cc cs : Nat) (pc : Nat) (ls : List (Option Value)) (st : List Value) : Prop := match X with
  | (p, l, e, R, s, m, args, below, meth, c, A, Z, nL) => ∀ (H : Heap) (locs : List Loc) (la : Array Slot), lv_has la nL (pw_l 0 ls) → va_P G.1 vwCl ws H → va_D A ws → va_S A s.heap H locs → W p l e R s m args below meth c H locs cc cs Z (F0 m pc la st)
theorem Nt_of {l : Launch} {G : pw_G} {M : MB} {nc ns : Nat} {As : List Value} {w0 : va_W} {B : (Nat → Nat) → va_W} {ls : List (Option Value)}
    (hy : plainFor M.1 = true) (hlen : (lg_sl As).length ≤ M.2.2.1) (hls : pw_l 0 ls = lv_args 0 As)
    (body : ∀ X : PXT, NC X G M nc ns B → NW X G w0 0 0 0 ls []) : Nt l G M nc ns As w0 B := by
  intro sz
  refine Met_ofWF (cc := M.2.1) (maxL := M.2.2.1) (ret := M.2.2.2.1) hy rfl ?_
  intro p e s m args below meth c s₁ B1 hml hv
  obtain ⟨rfl, hsz, hP, hK, hD0⟩ := hv
  subst hsz
  have hD := hD0.self (sz := s.heap.size)
  have k := body (p, l, e, (headSpec (MB.ws M) (MB.nrm M nc ns)).room, s, m, As.toArray, below, meth, c, va_A w0 s.heap.size, _, M.2.2.1) ⟨B1.exec, B1.bytes, ⟨hml, rfl⟩, findClass_of_methodNamed B1.named, fun w hw => atoms_spec (ws := MB.ws M) B1.pre w (List.mem_cons_of_mem _ hw), B1.returns, B1.notSynchronized, hK, (name_of_methodNamed B1.named B1.method).1, fun q h => Or.inr h, ⟨rfl, rfl, rfl, rfl⟩, rfl⟩
  have hl := lv_entry As (n := M.2.2.1) hlen
  rw [lg_entry_eq]
  exact k s.heap [] _ (by rw [hls]; exact hl) hP hD va_S.rf
theorem fm_of {f : Nat → Option (Nat × va_E)} {is : List Nat} {w : va_W} (h : is.map f = w.map some) : is.filterMap f = w := by
  have h2 := congrArg (List.filterMap id) h
  rw [List.filterMap_map, List.filterMap_map] at h2
  simpa using h2
section NROWS
variable {X : PXT} {G : pw_G} {M : MB} {nc ns cc cs : Nat} {B : (Nat → Nat) → va_W} {ws ws' : va_W} {pc : Nat} {ls : List (Option Value)} {st : List Value}
theorem n_ws (e : ws = ws') (k : NW X G ws' cc cs pc ls st) : NW X G ws cc cs pc ls st := e ▸ k
theorem n_iconst (C : NC X G M nc ns B) {z : Int} (hd : decode M.2.1 pc = .ok (.iconst z, 1)) (k : NW X G ws cc cs (pc + 1) ls (vI z :: st)) : NW X G ws cc cs pc ls st := by
  obtain ⟨p, l, e, R, s, m, args, below, meth, c, A, Z, n⟩ := X
  obtain ⟨hx, hb, ⟨hml, rfl⟩, hown, hts, hr, hlk, hK, hnm, hA, hR, hZ⟩ := C
  intro H locs la hl hP hD hS
  exact lv_iconst (v := iI z) hx hb hd rfl (k H locs la hl hP hD hS)
theorem n_bipush (C : NC X G M nc ns B) {z : Int} (hv : (Int8.ofInt z).toInt32 = iI z) (hd : decode M.2.1 pc = .ok (.bipush z, 2)) (k : NW X G ws cc cs (pc + 2) ls (vI z :: st)) : NW X G ws cc cs pc ls st := by
  obtain ⟨p, l, e, R, s, m, args, below, meth, c, A, Z, n⟩ := X
  obtain ⟨hx, hb, ⟨hml, rfl⟩, hown, hts, hr, hlk, hK, hnm, hA, hR, hZ⟩ := C
  intro H locs la hl hP hD hS
  exact lv_bipush hx hb hd hv (k H locs la hl hP hD hS)
theorem n_sipush (C : NC X G M nc ns B) {z : Int} (hv : (Int16.ofInt z).toInt32 = iI z) (hd : decode M.2.1 pc = .ok (.sipush z, 3)) (k : NW X G ws cc cs (pc + 3) ls (vI z :: st)) : NW X G ws cc cs pc ls st := by
  obtain ⟨p, l, e, R, s, m, args, below, meth, c, A, Z, n⟩ := X
  obtain ⟨hx, hb, ⟨hml, rfl⟩, hown, hts, hr, hlk, hK, hnm, hA, hR, hZ⟩ := C
  intro H locs la hl hP hD hS
  exact lv_sipush hx hb hd hv (k H locs la hl hP hD hS)
theorem n_aload_n (C : NC X G M nc ns B) {q : Fin 4} {x : Nat} (hl0 : ls[(q : Nat)]? = some (some (.ref x))) (hd : decode M.2.1 pc = .ok (.aload_n q, 1)) (k : NW X G ws cc cs (pc + 1) ls (.ref x :: st)) : NW X G ws cc cs pc ls st := by
  obtain ⟨p, l, e, R, s, m, args, below, meth, c, A, Z, n⟩ := X
  obtain ⟨hx, hb, ⟨hml, rfl⟩, hown, hts, hr, hlk, hK, hnm, hA, hR, hZ⟩ := C
  intro H locs la hl hP hD hS
  exact lv_aload_n hx hb hd rfl (pw_lg hl hl0) (k H locs la hl hP hD hS)
theorem n_dup (C : NC X G M nc ns B) {v : Value} (h : v.category = 1) (hd : decode M.2.1 pc = .ok (.dup, 1)) (k : NW X G ws cc cs (pc + 1) ls (v :: v :: st)) : NW X G ws cc cs pc ls (v :: st) := by
  obtain ⟨p, l, e, R, s, m, args, below, meth, c, A, Z, n⟩ := X
  obtain ⟨hx, hb, ⟨hml, rfl⟩, hown, hts, hr, hlk, hK, hnm, hA, hR, hZ⟩ := C
  intro H locs la hl hP hD hS
  exact lv_dup hx hb hd h (k H locs la hl hP hD hS)
theorem n_newaI (C : NC X G M nc ns B) {N : Nat} (hw : Cond.arrayClass .int ∈ ALLW) (hn : ¬ iI (N : Int) < 0) (hN : (iI (N : Int)).toNatClampNeg = N) (hby : N * componentBytes .int ≤ 536870912) (h1 : cc + 1 ≤ nc) (h2 : cs + N ≤ ns) (hd : decode M.2.1 pc = .ok (.newarray .int, 2)) (k : ∀ q, NW X G (ws ++ [(q, .inl (G.2.2.1, N, .inl (fun _ => iI 0)))]) (cc + 1) (cs + N) (pc + 2) ls (.ref q :: st)) : NW X G ws cc cs pc ls (vI (N : Int) :: st) := by
  obtain ⟨p, l, e, R, s, m, args, below, meth, c, A, Z, n⟩ := X
  obtain ⟨hx, hb, ⟨hml, rfl⟩, hown, hts, hr, hlk, hK, hnm, hA, ⟨hRf, hRl, hRc, hRs⟩, hZ⟩ := C
  intro H locs la hl hP hD hS
  refine va_newa (atype := .int) (ty := .int) (a0 := (N, .inl (fun _ => iI 0))) hx hb (hts _ hw) rfl hK.1.1 hP hD hS hA (fun _ => rfl) hn hN hby (by rw [hRc]; exact h1) (by rw [hRs]; exact h2) hd (fun q cA H1 hK1 hP1 hD1 hS1 => ?_)
  have e1 := (hK1.2 2 (cA, .int) rfl).2
  have e2 := (hK.1.1.2 0 (G.2.2.1, .int) rfl).2
  have e3 : cA = G.2.2.1 := Option.some.inj (e1.symm.trans e2)
  subst e3
  exact k q H1 locs la hl hP1 hD1 hS1
theorem n_newaL (C : NC X G M nc ns B) {N : Nat} (hw : Cond.arrayClass .long ∈ ALLW) (hn : ¬ iI (N : Int) < 0) (hN : (iI (N : Int)).toNatClampNeg = N) (hby : N * componentBytes .long ≤ 536870912) (h1 : cc + 1 ≤ nc) (h2 : cs + N ≤ ns) (hd : decode M.2.1 pc = .ok (.newarray .long, 2)) (k : ∀ q, NW X G (ws ++ [(q, .inl (G.2.2.2, N, .inr (.inl (fun _ => lI 0))))]) (cc + 1) (cs + N) (pc + 2) ls (.ref q :: st)) : NW X G ws cc cs pc ls (vI (N : Int) :: st) := by
  obtain ⟨p, l, e, R, s, m, args, below, meth, c, A, Z, n⟩ := X
  obtain ⟨hx, hb, ⟨hml, rfl⟩, hown, hts, hr, hlk, hK, hnm, hA, ⟨hRf, hRl, hRc, hRs⟩, hZ⟩ := C
  intro H locs la hl hP hD hS
  refine va_newa (atype := .long) (ty := .long) (a0 := (N, .inr (.inl (fun _ => lI 0)))) hx hb (hts _ hw) rfl hK.1.1 hP hD hS hA (fun _ => rfl) hn hN hby (by rw [hRc]; exact h1) (by rw [hRs]; exact h2) hd (fun q cA H1 hK1 hP1 hD1 hS1 => ?_)
  have e1 := (hK1.2 2 (cA, .long) rfl).2
  have e2 := (hK.1.1.2 1 (G.2.2.2, .long) rfl).2
  have e3 : cA = G.2.2.2 := Option.some.inj (e1.symm.trans e2)
  subst e3
  exact k q H1 locs la hl hP1 hD1 hS1
theorem n_put (C : NC X G M nc ns B) {idx : Nat} {Cn : String} {T : u_T} {N : Nat} {a : Nat} {fs : List Value} {v : Value} {ty : FieldType} (i0 ci k : Nat) (ty0 : Nat → FieldType) (hty : ∀ k, k < N → parseFieldDescriptor (T k).2.2.1 = some (ty0 k)) (hnm2 : ∀ a, a < N → ∀ b, b < N → a ≠ b → (T a).2.1 ≠ (T b).2.1) (he : ws[i0]? = some (a, .inr (ci, fs))) (hc : vwCl[ci]? = some (Cn, T, N)) (hk : k < N) (hin : ∀ w ∈ u_ws Cn T N, w ∈ ALLW) (hw : Cond.fieldLink M.1.cls idx (T k).1 (T k).2.1 (T k).2.2.1 ∈ ALLW) (hin2 : M.1.name = "<init>") (hdecl : (T k).1 = M.1.cls) (hd2 : parseFieldDescriptor (T k).2.2.1 = some ty) (hn : narrow ty v = v) (hfit : fits ty v = true) (hl9 : k < fs.length) (e9 : ws.set i0 (a, .inr (ci, fs.set k v)) = ws') (hd : decode M.2.1 pc = .ok (.putfield idx, 3)) (kk : NW X G ws' cc cs (pc + 3) ls st) : NW X G ws cc cs pc ls (v :: .ref a :: st) := by
  obtain ⟨p, l, e, R, s, m, args, below, meth, c, A, Z, n⟩ := X
  obtain ⟨hx, hb, ⟨hml, rfl⟩, hown, hts, hr, hlk, hK, hnm, hA, hR, hZ⟩ := C
  intro H locs la hl hP hD hS
  subst e9
  by_cases hf : (T k).2.2.2 = true
  · exact va_putF (D := G.1) (ci := ci) (v := v) (ty := ty) (C := Cn) (T := T) (N := N) hx hb hts hin ty0 hty hnm2 hown hK.1.1 hP hD hS i0 he hc k hk (hts _ hw) (fun _ h9 => h9) hf (hnm.trans hin2) hdecl hd2 hn hfit hl9 hd (fun H locs hP hD hS => kk H locs la hl hP hD hS)
  · exact va_put (D := G.1) (ci := ci) (v := v) (ty := ty) (C := Cn) (T := T) (N := N) hx hb hts hin ty0 hty hnm2 hown hK.1.1 hP hD hS i0 he hc k hk (hts _ hw) (fun _ h9 => h9) (by simpa using hf) hd2 hn hfit hl9 hd (fun H locs hP hD hS => kk H locs la hl hP hD hS)
theorem n_get (C : NC X G M nc ns B) {idx : Nat} {Cn : String} {T : u_T} {N : Nat} {a : Nat} {fs : List Value} {v : Value} (i0 ci k : Nat) (he : ws[i0]? = some (a, .inr (ci, fs))) (hc : vwCl[ci]? = some (Cn, T, N)) (hk : k < N) (hin : ∀ w ∈ u_ws Cn T N, w ∈ ALLW) (hw : Cond.fieldLink M.1.cls idx (T k).1 (T k).2.1 (T k).2.2.1 ∈ ALLW) (hv : fs[k]? = some v) (hd : decode M.2.1 pc = .ok (.getfield idx, 3)) (kk : NW X G ws cc cs (pc + 3) ls (v :: st)) : NW X G ws cc cs pc ls (.ref a :: st) := by
  obtain ⟨p, l, e, R, s, m, args, below, meth, c, A, Z, n⟩ := X
  obtain ⟨hx, hb, ⟨hml, rfl⟩, hown, hts, hr, hlk, hK, hnm, hA, hR, hZ⟩ := C
  intro H locs la hl hP hD hS
  exact va_get (D := G.1) (ci := ci) (v := v) (C := Cn) (T := T) (N := N) hx hb hts hin hown hK.1.1 hP i0 he hc k hk (hts _ hw) (fun _ h9 => h9) hv hd (kk H locs la hl hP hD hS)
theorem n_new (C : NC X G M nc ns B) {idx : Nat} {Cn : String} {T : u_T} {N : Nat} {fs : List Value} (ci : Nat) (ty0 : Nat → FieldType) (hty : ∀ k, k < N → parseFieldDescriptor (T k).2.2.1 = some (ty0 k)) (hc : vwCl[ci]? = some (Cn, T, N)) (hin : ∀ w ∈ u_ws Cn T N, w ∈ ALLW) (w1 : Cond.classLink M.1.cls idx Cn ∈ ALLW) (w2 : Cond.instantiable Cn N ∈ ALLW) (w3 : Cond.initialized Cn ∈ ALLW) (hfs : ∀ j, j < N → defaultValue (ty0 j) = vp_V fs j) (h1 : cc + 1 ≤ nc) (h2 : cs + N ≤ ns) (hd : decode M.2.1 pc = .ok (.new idx, 3)) (k : ∀ q, NW X G (ws ++ [(q, .inr (ci, fs))]) (cc + 1) (cs + N) (pc + 3) ls (.ref q :: st)) : NW X G ws cc cs pc ls st := by
  obtain ⟨p, l, e, R, s, m, args, below, meth, c, A, Z, n⟩ := X
  obtain ⟨hx, hb, ⟨hml, rfl⟩, hown, hts, hr, hlk, hK, hnm, hA, ⟨hRf, hRl, hRc, hRs⟩, hZ⟩ := C
  intro H locs la hl hP hD hS
  exact va_new (D := G.1) (ci := ci) (fs := fs) (C := Cn) (T := T) (N := N) hx hb hts hin ty0 hty hown (hts _ w1) (hts _ w2) (hts _ w3) hK.1.1 hP hD hS hA hc hfs (by rw [hRc]; exact h1) (by rw [hRs]; exact h2) hd (fun q H1 hP1 hD1 hS1 => k q H1 locs la hl hP1 hD1 hS1)
theorem n_obj (C : NC X G M nc ns B) {idx : Nat} {a : Nat} (w1 : Cond.methodLink M.1.cls idx objectInit ∈ ALLW) (w2 : Cond.instanceMethod objectInit ∈ ALLW) (w3 : Cond.code objectInit ⟨#[0xb1]⟩ 1 none ∈ ALLW) (hf : 1 ≤ M.2.2.2.2.1) (hlo : (st.map fun v => v.category).sum + 12 ≤ M.2.2.2.2.2.1) (hd : decode M.2.1 pc = .ok (.invokespecial idx, 3)) (k : NW X G ws cc cs (pc + 3) ls st) : NW X G ws cc cs pc ls (.ref a :: st) := by
  obtain ⟨p, l, e, R, s, m, args, below, meth, c, A, Z, n⟩ := X
  obtain ⟨hx, hb, ⟨hml, rfl⟩, hown, hts, hr, hlk, hK, hnm, hA, ⟨hRf, hRl, hRc, hRs⟩, hZ⟩ := C
  intro H locs la hl hP hD hS
  refine W.objInit hx hb hown (hts _ w1) (hts _ w2) (hts _ w3) rfl (by rw [hml]; exact hl.1) rfl hd (by rw [hRf]; exact hf) (by rw [hRl]; show 2 * 0 + _ + 12 ≤ _; omega) ?_
  exact k H locs la hl hP hD hS
theorem n_ret (C : NC X G M nc ns B) (hret : M.2.2.2.1 = none) (ad : Nat → Nat) (e9 : ws = B ad) (h1 : cc = nc) (h2 : cs = ns) (hd : decode M.2.1 pc = .ok (.return_, 1)) : NW X G ws cc cs pc ls [] := by
  obtain ⟨p, l, e, R, s, m, args, below, meth, c, A, Z, n⟩ := X
  obtain ⟨hx, hb, ⟨hml, rfl⟩, hown, hts, hr, hlk, hK, hnm, hA, hR, hZ⟩ := C
  intro H locs la hl hP hD hS
  subst hZ
  subst h1
  subst h2
  subst e9
  exact W.vret hx hb (hr.trans hret) (fun t ht hW => ⟨⟨ad, rfl, trivial, by rw [ht]; exact hP, hD⟩, hS.F ht⟩) hS.2.2 hd
theorem n_perm (is : List Nat) (hn : va_nd is = true) (e9 : is.map (fun i => ws[i]?) = ws'.map some) (k : NW X G ws' cc cs pc ls st) : NW X G ws cc cs pc ls st := by
  obtain ⟨p, l, e, R, s, m, args, below, meth, c, A, Z, n⟩ := X
  intro H locs la hl hP hD hS
  exact k H locs la hl (hP.sub is (fm_of e9)) (hD.sub is hn e9) hS
theorem NP.blind {As : List Value} {sz : Nat} {w0 : va_W} : FrameBlind (va_Pc As (NP G w0 sz)) := fun a U g mk q => by
  obtain ⟨q0, q1, qP, qK, qD⟩ := q
  exact ⟨q0, q1, qP, qK.same, qD⟩
/-- what links a constructor's call: a public one by its word, a nest mate's by what is known -/
def NL (own : String) (idx : Nat) (y : MethodName) (s : State) : Prop := (Cond.methodLink own idx y ∈ ALLW) ∨ va_Nw (.methodLinkNest own idx y RX5) s
theorem n_call (C : NC X G M nc ns B) {idx : Nat} {M2 : MB} {nc2 ns2 : Nat} {a : Nat} {As stk : List Value} {wc wr : va_W} {B2 : (Nat → Nat) → va_W} (hM : Nt X.2.1 G M2 nc2 ns2 (.ref a :: As) wc B2) (hok : okM M2) (hini : Cond.instanceMethod M2.1 ∈ ALLW) (hret2 : M2.2.2.2.1 = none) (hname : M2.1.name = "<init>")
    (hlink : Cond.methodLink M.1.cls idx M2.1 ∈ ALLW ∨ Cond.methodLinkNest M.1.cls idx M2.1 RX5 = nw_1 ∨ Cond.methodLinkNest M.1.cls idx M2.1 RX5 = nw_2) (isC isR : List Nat) (hC : isC.map (fun i => ws[i]?) = wc.map some) (hR : isR.map (fun i => ws[i]?) = wr.map some) (hnC : va_nd isC = true) (hnR : va_nd isR = true) (hdis : ∀ i ∈ isR, i ∉ isC)
    (hst : stk = As.reverse ++ .ref a :: st) (hn : As.length = M2.2.2.2.2.2.2) (hR1 : M2.2.2.2.2.1 + 1 ≤ M.2.2.2.2.1) (hR2 : 8 + (M2.2.2.1 + 11) + M2.2.2.2.2.2.1 ≤ M.2.2.2.2.2.1) (hcat : (st.map fun v => v.category).sum ≤ 8) (h1 : cc + nc2 ≤ nc) (h2 : cs + ns2 ≤ ns) (hd : decode M.2.1 pc = .ok (.invokespecial idx, 3))
    (kk : ∀ ad, NW X G (wr ++ B2 ad) (cc + nc2) (cs + ns2) (pc + 3) ls st) : NW X G ws cc cs pc ls stk := by
  obtain ⟨p, l, e, R, s, m, args, below, meth, c, A, Z, n⟩ := X
  obtain ⟨hx, hb, ⟨hml, rfl⟩, hown, hts, hr, hlk, hK, hnm, hA, ⟨hRf, hRl, hRc, hRs⟩, hZ⟩ := C
  subst hst
  intro H locs la hl hP hD hS
  have hPc := hP.sub isC (fm_of hC)
  have hDc := hD.sub isC hnC hC
  have hFc := va_free (wc := wc) hD hS hA isC hC
  have hpre : PreS s H (va_Pc (.ref a :: As) (NP G wc H.size)) (.ref a :: As) := ⟨NP.blind, fun U hU hW => ⟨rfl, by rw [hU], by rw [hU]; exact hPc, hK.alike hW, hDc.weaken (fun _ _ _ _ => trivial)⟩⟩
  have hrun : va_Run p l e R s m args below meth c H locs cc cs nc2 ns2 (F0 m pc la (As.reverse ++ .ref a :: st)) st (NQ G B2 (va_A wc H.size) (Value.ref a :: As).toArray) (va_A wc H.size) := by
    have hM1 := hM H.size
    have hcode : Cond.code M2.1 M2.2.1 M2.2.2.1 none ∈ ALLW := hret2 ▸ hok.2.1
    have hws : MB.ws M2 = Cond.code M2.1 M2.2.1 M2.2.2.1 none :: ALLW := by show Cond.code _ _ _ _ :: ALLW = _; rw [hret2]
    rcases hlink with h | h
    · exact va_runI (As := As) (rest := st) ⟨hx, hb, hml, hown, hts⟩ hM1 (cwI M2.2.2.2.2.2.2 hts hok.good hws rfl rfl (hts _ hok.1) (hts _ h) (hts _ hini) hname ⟨hok.2.2.1.1, hok.2.2.1.2, hok.2.2.2⟩ ⟨by rw [hRf]; exact hR1, by rw [hRl]; exact hR2⟩) hpre rfl hn hl.1 rfl (lv_room hcat) hd ⟨by rw [hRc]; exact h1, by rw [hRs]; exact h2⟩
    · have hnw : va_Nw (.methodLinkNest M.1.cls idx M2.1 RX5) s := by
        rcases h with h | h
        · rw [h]; exact hK.2.1
        · rw [h]; exact hK.2.2
      exact va_runIN (host := RX5) (As := As) (rest := st) ⟨hx, hb, hml, hown, hts⟩ hM1 ⟨va_cnB M2.2.2.2.2.2.2 hts hok.good hws rfl rfl hnw (hts _ hok.1) ⟨hok.2.2.1.1, hok.2.2.1.2, hok.2.2.2⟩ ⟨by rw [hRf]; exact hR1, by rw [hRl]; exact hR2⟩, hname, hts _ hini⟩ hpre rfl hn hl.1 rfl (lv_room hcat) hd ⟨by rw [hRc]; exact h1, by rw [hRs]; exact h2⟩
  refine va_callv hrun hS (fun q _ h => hFc q h) hFc (fun ad t H1 locs1 ht hvm _ hB hz1 hk1 hS1 => ?_)
  obtain ⟨hP1, hD1⟩ := hB
  rw [ht] at hP1
  obtain ⟨hP2, hD2⟩ := va_join (wr := wr) (w1 := B2 ad) hP hD isC isR hC hR hnR hdis hk1 hFc hP1 hD1
  exact kk ad H1 locs1 la hl hP2 hD2 hS1
end NROWS
