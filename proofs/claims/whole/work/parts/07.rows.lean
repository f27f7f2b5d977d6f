def zabs (x : Int) : Int := if x < 0 then -x else x
def zmin (x y : Int) : Int := if y < x then y else x
def zB (b : Bool) : Int := if b then 1 else 0
/-! the judgement over a world of a fixed shape -/
abbrev PXT : Type := Program × Launch × Env × Room × State × MethodId × Array Value × List Frame × Method × Code × (Nat → Prop) × (State → Prop) × Nat
def PW (X : PXT) (sh : pw_S) (G : pw_G) (pc : Nat) (ls : List (Option Value)) (st : List Value) (σ : pw_H) : Prop := match X with
  | (p, l, e, R, s, m, args, below, meth, c, A, Z, nL) => ∀ (H : Heap) (locs : List Loc) (la : Array Slot), lv_has la nL (pw_l 0 ls) → va_P G.1 vwCl (pw_w sh G σ) H → va_S A s.heap H locs → W p l e R s m args below meth c H locs 0 0 Z (F0 m pc la st)
/-- what every method of the system may take as known of the machine -/
abbrev pw_tys (G : pw_G) : List (ClassId × FieldType) := [(G.2.2.1, .int), (G.2.2.2, .long)]
abbrev pw_nw : Cond := .methodLinkNest RX1 93 yX5_leads RX5
def pw_K (G : pw_G) (U : State) : Prop := va_K G.1 vwCl (pw_tys G) U ∧ va_Nw pw_nw U
theorem pw_K.alike {G : pw_G} {u U : State} (hW : u.WarmedH U.vm) (h : pw_K G u) : pw_K G U := ⟨va_K.moved hW.alike h.1, va_Nw.warmM hW h.2⟩
theorem pw_K.same {G : pw_G} {u : State} {g : JFrame} {mk : MethodId} {a : Array Value} (h : pw_K G u) : pw_K G (u.calling g mk a) := ⟨va_K.moved (Vm.Alike.refl u.vm) h.1, va_Nw.same rfl rfl h.2⟩
/-- the answer and the world behind a method -/
def pw_B (sh : pw_S) (G : pw_G) (σ : pw_H) (t : State) : Prop := va_P G.1 vwCl (pw_w sh G σ) t.heap
def pw_Q (sh : pw_S) (G : pw_G) (Q : Option Value → pw_H → Prop) (A : Nat → Prop) : Array Value → State → Outcome → State → Prop := fun _ st oc t => (∃ (v : Option Value) (τ : pw_H), oc = .returned v ∧ Q v τ ∧ pw_B sh G τ t) ∧ va_F A st t
def pw_P (sh : pw_S) (G : pw_G) (σ : pw_H) (sz : Nat) (U : State) : Prop := U.heap.size = sz ∧ va_P G.1 vwCl (pw_w sh G σ) U.heap ∧ pw_K G U ∧ va_D (fun _ => True) (pw_w sh G σ)
/-- a method, in one: its name, its code, its locals, what it answers, its room (frames, locals), how many arguments -/
abbrev MB : Type := MethodName × ByteArray × Nat × Option FieldType × Nat × Nat × Nat
abbrev MB.ws (M : MB) : List Cond := Cond.code M.1 M.2.1 M.2.2.1 M.2.2.2.1 :: ALLW
abbrev MB.rm (M : MB) : Room := { frames := M.2.2.2.2.1, cells := 0, slots := 0, locals := M.2.2.2.2.2.1 }
/-- a method's contract: with these arguments, over this world, it ends, and Q holds of its answer and of the world behind it -/
def Ct (l : Launch) (sh : pw_S) (G : pw_G) (M : MB) (As : List Value) (σ : pw_H) (Q : Option Value → pw_H → Prop) : Prop :=
  ∀ sz : Nat, Met l M.1 (MB.ws M) (MB.rm M) (va_Pc As (pw_P sh G σ sz)) (pw_Q sh G Q (va_A (pw_w sh G σ) sz)) 0 0 (va_A (pw_w sh G σ) sz)
/-- a method's own standing facts -/
def PC (X : PXT) (sh : pw_S) (G : pw_G) (M : MB) (Q : Option Value → pw_H → Prop) : Prop := match X with
  | (p, l, e, R, s, m, args, below, meth, c, A, Z, n) => p.tables.exec = Jvm.exec ∧ c.code = M.2.1 ∧ (c.maxLocals = M.2.2.1 ∧ n = M.2.2.1) ∧ s.vm.findClass M.1.cls = some m.cls ∧ (∀ w ∈ ALLW, w.before args s = true) ∧ meth.sig.returnType = M.2.2.2.1 ∧ meth.locks = false ∧ pw_K G s ∧ va_D A (pw_w sh G (fun _ _ => 0)) ∧ (∀ q, s.heap.size ≤ q → A q) ∧ (R.frames = M.2.2.2.2.1 ∧ R.locals = M.2.2.2.2.2.1) ∧ Z = MQ below (pw_Q sh G Q A) args s 0 0 A
/-- a method's contract out of a walk, also in a class some of whose methods are natives' -/
theorem Met_ofWF {l : Launch} {y : MethodName} {ws ws' : List Cond} {rm : Room} {Pc : Array Value → State → Prop} {Qc : Array Value → State → Outcome → State → Prop} {mc ms : Nat} {free : Addr → Prop} {cc : ByteArray} {maxL : Nat} {ret : Option FieldType}
    (hy : plainFor y = true) (hw : ws = Cond.code y cc maxL ret :: ws')
    (body : ∀ p e s m args below meth c s₁, BodyLoose p l y (headSpec ws rm) cc maxL ret e s m args below meth c s₁ → c.maxLocals = maxL → Pc args s →
      W p l e (headSpec ws rm).room s m args below meth c s.heap [] 0 0 (MQ below Qc args s mc ms free) (entryFrame m args maxL)) : Met l y ws rm Pc Qc mc ms free := by
  refine MetFree.of_bodySF (code := cc) (maxLocals := maxL) (ret := ret) hy (fun args s m h hn => ?_) (fun p e s m args below meth c s₁ B hml hP _ => ?_)
  · obtain ⟨meth, c, h1, h2, h3, h4, h5, h6, -, -⟩ := Cond.code_spec hn (atoms_spec (ws := ws) h _ (by rw [hw]; exact List.mem_cons_self))
    exact ⟨meth, c, h1, h2, h3, h4, h5, h6⟩
  · obtain ⟨t, a1, o, b1, b2, b3⟩ := body p e s m args below meth c s₁ B hml hP s₁ (by rw [B.state]; rfl) (Stand.of_body B)
    exact ⟨t, o, a1, b1, b2, b3.1, b3.2⟩
theorem Ct_of {l : Launch} {sh : pw_S} {G : pw_G} {M : MB} {As : List Value} {σ : pw_H} {Q : Option Value → pw_H → Prop} {ls : List (Option Value)}
    (hy : plainFor M.1 = true) (hlen : (lg_sl As).length ≤ M.2.2.1) (hls : pw_l 0 ls = lv_args 0 As)
    (body : ∀ X : PXT, PC X sh G M Q → PW X sh G 0 ls [] σ) : Ct l sh G M As σ Q := by
  intro sz
  refine Met_ofWF (cc := M.2.1) (maxL := M.2.2.1) (ret := M.2.2.2.1) hy rfl ?_
  intro p e s m args below meth c s₁ B hml hv
  obtain ⟨rfl, hsz, hP, hK, hD0⟩ := hv
  subst hsz
  have hD := hD0.self (sz := s.heap.size)
  have k := body (p, l, e, (headSpec (MB.ws M) (MB.rm M)).room, s, m, As.toArray, below, meth, c, va_A (pw_w sh G σ) s.heap.size, _, M.2.2.1) ⟨B.exec, B.bytes, ⟨hml, rfl⟩, findClass_of_methodNamed B.named, fun w hw => atoms_spec (ws := MB.ws M) B.pre w (List.mem_cons_of_mem _ hw), B.returns, B.notSynchronized, hK, pw_dom hD, fun q h => Or.inr h, ⟨rfl, rfl⟩, rfl⟩
  have hl := lv_entry As (n := M.2.2.1) hlen
  rw [lg_entry_eq]
  exact k s.heap [] _ (by rw [hls]; exact hl) hP va_S.rf
theorem goodALL : ∀ w ∈ ALLW, ((w.onTables && w.keeps) = true ∨ ∃ ty, w = .arrayClass ty) := fun w h => good_of_word (List.all_eq_true.mp (by decide +kernel : ALLW.all goodWord = true) w h)
def okM (M : MB) : Prop := Cond.initialized M.1.cls ∈ ALLW ∧ Cond.code M.1 M.2.1 M.2.2.1 M.2.2.2.1 ∈ ALLW ∧ (M.1.cls ≠ "java/lang/invoke/MethodHandle" ∧ M.1.cls ≠ "java/lang/invoke/VarHandle") ∧ (parseMethodDescriptor M.1.desc).map (fun d => d.parameters.length) = some M.2.2.2.2.2.2
def okS (M : MB) : Prop := okM M ∧ Cond.static M.1 ∈ ALLW
def okV (M : MB) : Prop := okM M ∧ Cond.instanceMethod M.1 ∈ ALLW ∧ Cond.selects M.1.cls M.1 M.1 ∈ ALLW
theorem okM.good {M : MB} (h : okM M) : GoodIn ALLW (MB.ws M) := fun w hw => by
  rcases List.mem_cons.mp hw with rfl | hw
  · exact ⟨h.2.1, goodALL _ h.2.1⟩
  · exact ⟨hw, goodALL _ hw⟩
theorem okS.good {M : MB} {own : String} {idx : Nat} (h : okS M) (hl : Cond.methodLink own idx M.1 ∈ ALLW) : GoodIn ALLW (va_wsS own idx M.1 (MB.ws M)) := fun w hw => by
  rcases List.mem_append.mp hw with hw | hw
  · have hm : w ∈ ALLW := by
      rcases List.mem_cons.mp hw with rfl | hw
      · exact hl
      rcases List.mem_cons.mp hw with rfl | hw
      · exact h.2
      rcases List.mem_cons.mp hw with rfl | hw
      · exact h.1.1
      · cases hw
    exact ⟨hm, goodALL _ hm⟩
  · exact h.1.good w hw
theorem okV.good {M : MB} {own : String} {idx : Nat} (h : okV M) (hl : Cond.methodLink own idx M.1 ∈ ALLW) : GoodIn ALLW (wsV own idx M.1.cls M.1 (MB.ws M)) := fun w hw => by
  rcases List.mem_append.mp hw with hw | hw
  · have hm : w ∈ ALLW := by
      rcases List.mem_cons.mp hw with rfl | hw
      · exact hl
      rcases List.mem_cons.mp hw with rfl | hw
      · exact h.2.1
      rcases List.mem_cons.mp hw with rfl | hw
      · exact h.2.2
      rcases List.mem_cons.mp hw with rfl | hw
      · exact h.1.1
      · cases hw
    exact ⟨hm, goodALL _ hm⟩
  · exact h.1.good w hw
section ROWS
variable {X : PXT} {sh : pw_S} {G : pw_G} {M : MB} {Q : Option Value → pw_H → Prop} {pc : Nat} {ls ls' : List (Option Value)} {st : List Value} {σ : pw_H}
theorem r_iconst (C : PC X sh G M Q) {z : Int} (hd : decode M.2.1 pc = .ok (.iconst z, 1)) (k : PW X sh G (pc + 1) ls (vI z :: st) σ) : PW X sh G pc ls (st) σ := by
  obtain ⟨p, l, e, R, s, m, args, below, meth, c, A, Z, n⟩ := X
  obtain ⟨hx, hb, ⟨hml, rfl⟩, hown, hts, hr, hlk, hK, hD, hA, hR, hZ⟩ := C
  intro H locs la hl hP hS
  exact lv_iconst (v := iI z) hx hb hd rfl (k H locs la hl hP hS)
theorem r_bipush (C : PC X sh G M Q) {z : Int} (hv : (Int8.ofInt z).toInt32 = iI z) (hd : decode M.2.1 pc = .ok (.bipush z, 2)) (k : PW X sh G (pc + 2) ls (vI z :: st) σ) : PW X sh G pc ls (st) σ := by
  obtain ⟨p, l, e, R, s, m, args, below, meth, c, A, Z, n⟩ := X
  obtain ⟨hx, hb, ⟨hml, rfl⟩, hown, hts, hr, hlk, hK, hD, hA, hR, hZ⟩ := C
  intro H locs la hl hP hS
  exact lv_bipush hx hb hd hv (k H locs la hl hP hS)
theorem r_sipush (C : PC X sh G M Q) {z : Int} (hv : (Int16.ofInt z).toInt32 = iI z) (hd : decode M.2.1 pc = .ok (.sipush z, 3)) (k : PW X sh G (pc + 3) ls (vI z :: st) σ) : PW X sh G pc ls (st) σ := by
  obtain ⟨p, l, e, R, s, m, args, below, meth, c, A, Z, n⟩ := X
  obtain ⟨hx, hb, ⟨hml, rfl⟩, hown, hts, hr, hlk, hK, hD, hA, hR, hZ⟩ := C
  intro H locs la hl hP hS
  exact lv_sipush hx hb hd hv (k H locs la hl hP hS)
theorem r_ldc (C : PC X sh G M Q) {i : Nat} {v : Int32} {z : Int} (hw : Cond.constant M.1.cls i v ∈ ALLW) (hv : v = iI z) (hd : decode M.2.1 pc = .ok (.ldc i, 2)) (k : PW X sh G (pc + 2) ls (vI z :: st) σ) : PW X sh G pc ls (st) σ := by
  obtain ⟨p, l, e, R, s, m, args, below, meth, c, A, Z, n⟩ := X
  obtain ⟨hx, hb, ⟨hml, rfl⟩, hown, hts, hr, hlk, hK, hD, hA, hR, hZ⟩ := C
  intro H locs la hl hP hS
  subst hv; exact lv_ldc hx hb hown (hts _ hw) hd (k H locs la hl hP hS)
theorem r_ldc2 (C : PC X sh G M Q) {i : Nat} {v : Int64} {z : Int} (hw : Cond.constantLong M.1.cls i v ∈ ALLW) (hv : v = lI z) (hd : decode M.2.1 pc = .ok (.ldc2_w i, 3)) (k : PW X sh G (pc + 3) ls (vL z :: st) σ) : PW X sh G pc ls (st) σ := by
  obtain ⟨p, l, e, R, s, m, args, below, meth, c, A, Z, n⟩ := X
  obtain ⟨hx, hb, ⟨hml, rfl⟩, hown, hts, hr, hlk, hK, hD, hA, hR, hZ⟩ := C
  intro H locs la hl hP hS
  subst hv; exact lv_ldc2 hx hb hown (hts _ hw) hd (k H locs la hl hP hS)
theorem r_lconst (C : PC X sh G M Q) {q : Fin 2} {z : Int} (hv : Int64.ofNat (q : Nat) = lI z) (hd : decode M.2.1 pc = .ok (.lconst q, 1)) (k : PW X sh G (pc + 1) ls (vL z :: st) σ) : PW X sh G pc ls (st) σ := by
  obtain ⟨p, l, e, R, s, m, args, below, meth, c, A, Z, n⟩ := X
  obtain ⟨hx, hb, ⟨hml, rfl⟩, hown, hts, hr, hlk, hK, hD, hA, hR, hZ⟩ := C
  intro H locs la hl hP hS
  exact lv_lconst hx hb hd hv (k H locs la hl hP hS)
theorem r_iload_n (C : PC X sh G M Q) {q : Fin 4} {x : Int} (hl0 : ls[(q : Nat)]? = some (some (vI x))) (hd : decode M.2.1 pc = .ok (.iload_n q, 1)) (k : PW X sh G (pc + 1) ls (vI x :: st) σ) : PW X sh G pc ls (st) σ := by
  obtain ⟨p, l, e, R, s, m, args, below, meth, c, A, Z, n⟩ := X
  obtain ⟨hx, hb, ⟨hml, rfl⟩, hown, hts, hr, hlk, hK, hD, hA, hR, hZ⟩ := C
  intro H locs la hl hP hS
  exact lv_iload_n hx hb hd rfl (pw_lg hl hl0) (k H locs la hl hP hS)
theorem r_iload (C : PC X sh G M Q) {i : Nat} {x : Int} (hl0 : ls[i]? = some (some (vI x))) (hd : decode M.2.1 pc = .ok (.iload i, 2)) (k : PW X sh G (pc + 2) ls (vI x :: st) σ) : PW X sh G pc ls (st) σ := by
  obtain ⟨p, l, e, R, s, m, args, below, meth, c, A, Z, n⟩ := X
  obtain ⟨hx, hb, ⟨hml, rfl⟩, hown, hts, hr, hlk, hK, hD, hA, hR, hZ⟩ := C
  intro H locs la hl hP hS
  exact lv_iload hx hb hd (pw_lg hl hl0) (k H locs la hl hP hS)
theorem r_lload_n (C : PC X sh G M Q) {q : Fin 4} {x : Int} (hl0 : ls[(q : Nat)]? = some (some (vL x))) (hd : decode M.2.1 pc = .ok (.lload_n q, 1)) (k : PW X sh G (pc + 1) ls (vL x :: st) σ) : PW X sh G pc ls (st) σ := by
  obtain ⟨p, l, e, R, s, m, args, below, meth, c, A, Z, n⟩ := X
  obtain ⟨hx, hb, ⟨hml, rfl⟩, hown, hts, hr, hlk, hK, hD, hA, hR, hZ⟩ := C
  intro H locs la hl hP hS
  exact lv_lload_n hx hb hd rfl (pw_lg hl hl0) (k H locs la hl hP hS)
theorem r_lload (C : PC X sh G M Q) {i : Nat} {x : Int} (hl0 : ls[i]? = some (some (vL x))) (hd : decode M.2.1 pc = .ok (.lload i, 2)) (k : PW X sh G (pc + 2) ls (vL x :: st) σ) : PW X sh G pc ls (st) σ := by
  obtain ⟨p, l, e, R, s, m, args, below, meth, c, A, Z, n⟩ := X
  obtain ⟨hx, hb, ⟨hml, rfl⟩, hown, hts, hr, hlk, hK, hD, hA, hR, hZ⟩ := C
  intro H locs la hl hP hS
  exact lv_lload hx hb hd (pw_lg hl hl0) (k H locs la hl hP hS)
theorem r_aload_n (C : PC X sh G M Q) {q : Fin 4} {x : Nat} (hl0 : ls[(q : Nat)]? = some (some (.ref x))) (hd : decode M.2.1 pc = .ok (.aload_n q, 1)) (k : PW X sh G (pc + 1) ls (.ref x :: st) σ) : PW X sh G pc ls (st) σ := by
  obtain ⟨p, l, e, R, s, m, args, below, meth, c, A, Z, n⟩ := X
  obtain ⟨hx, hb, ⟨hml, rfl⟩, hown, hts, hr, hlk, hK, hD, hA, hR, hZ⟩ := C
  intro H locs la hl hP hS
  exact lv_aload_n hx hb hd rfl (pw_lg hl hl0) (k H locs la hl hP hS)
theorem r_aload (C : PC X sh G M Q) {i : Nat} {x : Nat} (hl0 : ls[i]? = some (some (.ref x))) (hd : decode M.2.1 pc = .ok (.aload i, 2)) (k : PW X sh G (pc + 2) ls (.ref x :: st) σ) : PW X sh G pc ls (st) σ := by
  obtain ⟨p, l, e, R, s, m, args, below, meth, c, A, Z, n⟩ := X
  obtain ⟨hx, hb, ⟨hml, rfl⟩, hown, hts, hr, hlk, hK, hD, hA, hR, hZ⟩ := C
  intro H locs la hl hP hS
  exact lv_aload hx hb hd (pw_lg hl hl0) (k H locs la hl hP hS)
theorem r_iadd (C : PC X sh G M Q) {x y : Int} (hd : decode M.2.1 pc = .ok (.iadd, 1)) (k : PW X sh G (pc + 1) ls (vI (x + y) :: st) σ) : PW X sh G pc ls (vI y :: vI x :: st) σ := by
  obtain ⟨p, l, e, R, s, m, args, below, meth, c, A, Z, n⟩ := X
  obtain ⟨hx, hb, ⟨hml, rfl⟩, hown, hts, hr, hlk, hK, hD, hA, hR, hZ⟩ := C
  intro H locs la hl hP hS
  exact lv_iadd hx hb hd (by rw [iI_add]; exact k H locs la hl hP hS)
theorem r_isub (C : PC X sh G M Q) {x y : Int} (hd : decode M.2.1 pc = .ok (.isub, 1)) (k : PW X sh G (pc + 1) ls (vI (x - y) :: st) σ) : PW X sh G pc ls (vI y :: vI x :: st) σ := by
  obtain ⟨p, l, e, R, s, m, args, below, meth, c, A, Z, n⟩ := X
  obtain ⟨hx, hb, ⟨hml, rfl⟩, hown, hts, hr, hlk, hK, hD, hA, hR, hZ⟩ := C
  intro H locs la hl hP hS
  exact lv_isub hx hb hd (by rw [iI_sub]; exact k H locs la hl hP hS)
theorem r_imul (C : PC X sh G M Q) {x y : Int} (hd : decode M.2.1 pc = .ok (.imul, 1)) (k : PW X sh G (pc + 1) ls (vI (x * y) :: st) σ) : PW X sh G pc ls (vI y :: vI x :: st) σ := by
  obtain ⟨p, l, e, R, s, m, args, below, meth, c, A, Z, n⟩ := X
  obtain ⟨hx, hb, ⟨hml, rfl⟩, hown, hts, hr, hlk, hK, hD, hA, hR, hZ⟩ := C
  intro H locs la hl hP hS
  exact lv_imul hx hb hd (by rw [iI_mul]; exact k H locs la hl hP hS)
theorem r_ineg (C : PC X sh G M Q) {x : Int} (hd : decode M.2.1 pc = .ok (.ineg, 1)) (k : PW X sh G (pc + 1) ls (vI (-x) :: st) σ) : PW X sh G pc ls (vI x :: st) σ := by
  obtain ⟨p, l, e, R, s, m, args, below, meth, c, A, Z, n⟩ := X
  obtain ⟨hx, hb, ⟨hml, rfl⟩, hown, hts, hr, hlk, hK, hD, hA, hR, hZ⟩ := C
  intro H locs la hl hP hS
  exact lv_ineg hx hb hd (by rw [iI_neg]; exact k H locs la hl hP hS)
theorem r_idiv (C : PC X sh G M Q) {x y : Int} (h1 : InI x) (h2 : InI y) (h3 : y ≠ 0) (hd : decode M.2.1 pc = .ok (.idiv, 1)) (k : PW X sh G (pc + 1) ls (vI (x.tdiv y) :: st) σ) : PW X sh G pc ls (vI y :: vI x :: st) σ := by
  obtain ⟨p, l, e, R, s, m, args, below, meth, c, A, Z, n⟩ := X
  obtain ⟨hx, hb, ⟨hml, rfl⟩, hown, hts, hr, hlk, hK, hD, hA, hR, hZ⟩ := C
  intro H locs la hl hP hS
  exact lv_idiv hx hb hd (fun q => h3 ((iI_eq h2 ⟨by omega, by omega⟩).mp (q.trans iI_0.symm))) (by rw [iI_div h1 h2]; exact k H locs la hl hP hS)
theorem r_irem (C : PC X sh G M Q) {x y : Int} (h1 : InI x) (h2 : InI y) (h3 : y ≠ 0) (hd : decode M.2.1 pc = .ok (.irem, 1)) (k : PW X sh G (pc + 1) ls (vI (x.tmod y) :: st) σ) : PW X sh G pc ls (vI y :: vI x :: st) σ := by
  obtain ⟨p, l, e, R, s, m, args, below, meth, c, A, Z, n⟩ := X
  obtain ⟨hx, hb, ⟨hml, rfl⟩, hown, hts, hr, hlk, hK, hD, hA, hR, hZ⟩ := C
  intro H locs la hl hP hS
  exact lv_irem hx hb hd (fun q => h3 ((iI_eq h2 ⟨by omega, by omega⟩).mp (q.trans iI_0.symm))) (by rw [iI_rem h1 h2]; exact k H locs la hl hP hS)
theorem r_iand (C : PC X sh G M Q) {x y z : Int} (h : iI x &&& iI y = iI z) (hd : decode M.2.1 pc = .ok (.iand, 1)) (k : PW X sh G (pc + 1) ls (vI z :: st) σ) : PW X sh G pc ls (vI y :: vI x :: st) σ := by
  obtain ⟨p, l, e, R, s, m, args, below, meth, c, A, Z, n⟩ := X
  obtain ⟨hx, hb, ⟨hml, rfl⟩, hown, hts, hr, hlk, hK, hD, hA, hR, hZ⟩ := C
  intro H locs la hl hP hS
  exact lv_iand hx hb hd (by rw [h]; exact k H locs la hl hP hS)
theorem r_ior (C : PC X sh G M Q) {x y z : Int} (h : iI x ||| iI y = iI z) (hd : decode M.2.1 pc = .ok (.ior, 1)) (k : PW X sh G (pc + 1) ls (vI z :: st) σ) : PW X sh G pc ls (vI y :: vI x :: st) σ := by
  obtain ⟨p, l, e, R, s, m, args, below, meth, c, A, Z, n⟩ := X
  obtain ⟨hx, hb, ⟨hml, rfl⟩, hown, hts, hr, hlk, hK, hD, hA, hR, hZ⟩ := C
  intro H locs la hl hP hS
  exact lv_ior hx hb hd (by rw [h]; exact k H locs la hl hP hS)
theorem r_ixor (C : PC X sh G M Q) {x y z : Int} (h : iI x ^^^ iI y = iI z) (hd : decode M.2.1 pc = .ok (.ixor, 1)) (k : PW X sh G (pc + 1) ls (vI z :: st) σ) : PW X sh G pc ls (vI y :: vI x :: st) σ := by
  obtain ⟨p, l, e, R, s, m, args, below, meth, c, A, Z, n⟩ := X
  obtain ⟨hx, hb, ⟨hml, rfl⟩, hown, hts, hr, hlk, hK, hD, hA, hR, hZ⟩ := C
  intro H locs la hl hP hS
  exact lv_ixor hx hb hd (by rw [h]; exact k H locs la hl hP hS)
theorem r_ishl (C : PC X sh G M Q) {x y z : Int} (h : iI x <<< (iI y &&& 31) = iI z) (hd : decode M.2.1 pc = .ok (.ishl, 1)) (k : PW X sh G (pc + 1) ls (vI z :: st) σ) : PW X sh G pc ls (vI y :: vI x :: st) σ := by
  obtain ⟨p, l, e, R, s, m, args, below, meth, c, A, Z, n⟩ := X
  obtain ⟨hx, hb, ⟨hml, rfl⟩, hown, hts, hr, hlk, hK, hD, hA, hR, hZ⟩ := C
  intro H locs la hl hP hS
  exact lv_ishl hx hb hd (by rw [h]; exact k H locs la hl hP hS)
theorem r_ishr (C : PC X sh G M Q) {x y z : Int} (h : iI x >>> (iI y &&& 31) = iI z) (hd : decode M.2.1 pc = .ok (.ishr, 1)) (k : PW X sh G (pc + 1) ls (vI z :: st) σ) : PW X sh G pc ls (vI y :: vI x :: st) σ := by
  obtain ⟨p, l, e, R, s, m, args, below, meth, c, A, Z, n⟩ := X
  obtain ⟨hx, hb, ⟨hml, rfl⟩, hown, hts, hr, hlk, hK, hD, hA, hR, hZ⟩ := C
  intro H locs la hl hP hS
  exact lv_ishr hx hb hd (by rw [h]; exact k H locs la hl hP hS)
theorem r_ladd (C : PC X sh G M Q) {x y : Int} (hd : decode M.2.1 pc = .ok (.ladd, 1)) (k : PW X sh G (pc + 1) ls (vL (x + y) :: st) σ) : PW X sh G pc ls (vL y :: vL x :: st) σ := by
  obtain ⟨p, l, e, R, s, m, args, below, meth, c, A, Z, n⟩ := X
  obtain ⟨hx, hb, ⟨hml, rfl⟩, hown, hts, hr, hlk, hK, hD, hA, hR, hZ⟩ := C
  intro H locs la hl hP hS
  exact lv_ladd hx hb hd (by rw [lI_add]; exact k H locs la hl hP hS)
theorem r_i2l (C : PC X sh G M Q) {x z : Int} (h : (iI x).toInt64 = lI z) (hd : decode M.2.1 pc = .ok (.i2l, 1)) (k : PW X sh G (pc + 1) ls (vL z :: st) σ) : PW X sh G pc ls (vI x :: st) σ := by
  obtain ⟨p, l, e, R, s, m, args, below, meth, c, A, Z, n⟩ := X
  obtain ⟨hx, hb, ⟨hml, rfl⟩, hown, hts, hr, hlk, hK, hD, hA, hR, hZ⟩ := C
  intro H locs la hl hP hS
  exact lv_i2l hx hb hd h (k H locs la hl hP hS)
theorem r_l2i (C : PC X sh G M Q) {x z : Int} (h : (lI x).toInt32 = iI z) (hd : decode M.2.1 pc = .ok (.l2i, 1)) (k : PW X sh G (pc + 1) ls (vI z :: st) σ) : PW X sh G pc ls (vL x :: st) σ := by
  obtain ⟨p, l, e, R, s, m, args, below, meth, c, A, Z, n⟩ := X
  obtain ⟨hx, hb, ⟨hml, rfl⟩, hown, hts, hr, hlk, hK, hD, hA, hR, hZ⟩ := C
  intro H locs la hl hP hS
  exact lv_l2i hx hb hd h (k H locs la hl hP hS)
theorem r_lshl (C : PC X sh G M Q) {x y z : Int} (h : lI x <<< ((iI y).toInt64 &&& 63) = lI z) (hd : decode M.2.1 pc = .ok (.lshl, 1)) (k : PW X sh G (pc + 1) ls (vL z :: st) σ) : PW X sh G pc ls (vI y :: vL x :: st) σ := by
  obtain ⟨p, l, e, R, s, m, args, below, meth, c, A, Z, n⟩ := X
  obtain ⟨hx, hb, ⟨hml, rfl⟩, hown, hts, hr, hlk, hK, hD, hA, hR, hZ⟩ := C
  intro H locs la hl hP hS
  exact lv_lshl hx hb hd h (k H locs la hl hP hS)
theorem r_lshr (C : PC X sh G M Q) {x y z : Int} (h : lI x >>> ((iI y).toInt64 &&& 63) = lI z) (hd : decode M.2.1 pc = .ok (.lshr, 1)) (k : PW X sh G (pc + 1) ls (vL z :: st) σ) : PW X sh G pc ls (vI y :: vL x :: st) σ := by
  obtain ⟨p, l, e, R, s, m, args, below, meth, c, A, Z, n⟩ := X
  obtain ⟨hx, hb, ⟨hml, rfl⟩, hown, hts, hr, hlk, hK, hD, hA, hR, hZ⟩ := C
  intro H locs la hl hP hS
  exact lv_lshr hx hb hd h (k H locs la hl hP hS)
theorem r_dup (C : PC X sh G M Q) {v : Value} (h : v.category = 1) (hd : decode M.2.1 pc = .ok (.dup, 1)) (k : PW X sh G (pc + 1) ls (v :: v :: st) σ) : PW X sh G pc ls (v :: st) σ := by
  obtain ⟨p, l, e, R, s, m, args, below, meth, c, A, Z, n⟩ := X
  obtain ⟨hx, hb, ⟨hml, rfl⟩, hown, hts, hr, hlk, hK, hD, hA, hR, hZ⟩ := C
  intro H locs la hl hP hS
  exact lv_dup hx hb hd h (k H locs la hl hP hS)
theorem r_dup_x1 (C : PC X sh G M Q) {v w : Value} (h : v.category = 1) (h2 : w.category = 1) (hd : decode M.2.1 pc = .ok (.dup_x1, 1)) (k : PW X sh G (pc + 1) ls (v :: w :: v :: st) σ) : PW X sh G pc ls (v :: w :: st) σ := by
  obtain ⟨p, l, e, R, s, m, args, below, meth, c, A, Z, n⟩ := X
  obtain ⟨hx, hb, ⟨hml, rfl⟩, hown, hts, hr, hlk, hK, hD, hA, hR, hZ⟩ := C
  intro H locs la hl hP hS
  exact lv_dup_x1 hx hb hd h h2 (k H locs la hl hP hS)
theorem r_dup2 (C : PC X sh G M Q) {v w : Value} (h : v.category = 1) (h2 : w.category = 1) (hd : decode M.2.1 pc = .ok (.dup2, 1)) (k : PW X sh G (pc + 1) ls (v :: w :: v :: w :: st) σ) : PW X sh G pc ls (v :: w :: st) σ := by
  obtain ⟨p, l, e, R, s, m, args, below, meth, c, A, Z, n⟩ := X
  obtain ⟨hx, hb, ⟨hml, rfl⟩, hown, hts, hr, hlk, hK, hD, hA, hR, hZ⟩ := C
  intro H locs la hl hP hS
  exact lv_dup2_11 hx hb hd h h2 (k H locs la hl hP hS)
theorem r_istore_n (C : PC X sh G M Q) {q : Fin 4} {x : Int} (hn : (q : Nat) < M.2.2.1) (hc : pw_c ls (q : Nat) = true) (hs : ls.set (q : Nat) (some (vI x)) = ls') (hd : decode M.2.1 pc = .ok (.istore_n q, 1)) (k : PW X sh G (pc + 1) ls' st σ) : PW X sh G pc ls (vI x :: st) σ := by
  obtain ⟨p, l, e, R, s, m, args, below, meth, c, A, Z, n⟩ := X
  obtain ⟨hx, hb, ⟨hml, rfl⟩, hown, hts, hr, hlk, hK, hD, hA, hR, hZ⟩ := C
  intro H locs la hl hP hS
  exact lv_istore_n hx hb hd rfl hl hn rfl (fun la hl => k H locs la (hs ▸ pw_s1 hc hl) hP hS)
theorem r_istore (C : PC X sh G M Q) {i : Nat} {x : Int} (hn : i < M.2.2.1) (hc : pw_c ls i = true) (hs : ls.set i (some (vI x)) = ls') (hd : decode M.2.1 pc = .ok (.istore i, 2)) (k : PW X sh G (pc + 2) ls' st σ) : PW X sh G pc ls (vI x :: st) σ := by
  obtain ⟨p, l, e, R, s, m, args, below, meth, c, A, Z, n⟩ := X
  obtain ⟨hx, hb, ⟨hml, rfl⟩, hown, hts, hr, hlk, hK, hD, hA, hR, hZ⟩ := C
  intro H locs la hl hP hS
  exact lv_istore hx hb hd hl hn rfl (fun la hl => k H locs la (hs ▸ pw_s1 hc hl) hP hS)
theorem r_astore_n (C : PC X sh G M Q) {q : Fin 4} {x : Nat} (hn : (q : Nat) < M.2.2.1) (hc : pw_c ls (q : Nat) = true) (hs : ls.set (q : Nat) (some (.ref x)) = ls') (hd : decode M.2.1 pc = .ok (.astore_n q, 1)) (k : PW X sh G (pc + 1) ls' st σ) : PW X sh G pc ls (.ref x :: st) σ := by
  obtain ⟨p, l, e, R, s, m, args, below, meth, c, A, Z, n⟩ := X
  obtain ⟨hx, hb, ⟨hml, rfl⟩, hown, hts, hr, hlk, hK, hD, hA, hR, hZ⟩ := C
  intro H locs la hl hP hS
  exact lv_astore_n hx hb hd rfl hl hn rfl (fun la hl => k H locs la (hs ▸ pw_s1 hc hl) hP hS)
theorem r_astore (C : PC X sh G M Q) {i : Nat} {x : Nat} (hn : i < M.2.2.1) (hc : pw_c ls i = true) (hs : ls.set i (some (.ref x)) = ls') (hd : decode M.2.1 pc = .ok (.astore i, 2)) (k : PW X sh G (pc + 2) ls' st σ) : PW X sh G pc ls (.ref x :: st) σ := by
  obtain ⟨p, l, e, R, s, m, args, below, meth, c, A, Z, n⟩ := X
  obtain ⟨hx, hb, ⟨hml, rfl⟩, hown, hts, hr, hlk, hK, hD, hA, hR, hZ⟩ := C
  intro H locs la hl hP hS
  exact lv_astore hx hb hd hl hn rfl (fun la hl => k H locs la (hs ▸ pw_s1 hc hl) hP hS)
theorem r_lstore_n (C : PC X sh G M Q) {q : Fin 4} {x : Int} (hn : (q : Nat) + 1 < M.2.2.1) (hc : pw_c ls (q : Nat) = true) (hs : (ls.set (q : Nat) (some (vL x))).set ((q : Nat) + 1) none = ls') (hd : decode M.2.1 pc = .ok (.lstore_n q, 1)) (k : PW X sh G (pc + 1) ls' st σ) : PW X sh G pc ls (vL x :: st) σ := by
  obtain ⟨p, l, e, R, s, m, args, below, meth, c, A, Z, n⟩ := X
  obtain ⟨hx, hb, ⟨hml, rfl⟩, hown, hts, hr, hlk, hK, hD, hA, hR, hZ⟩ := C
  intro H locs la hl hP hS
  exact lv_lstore_n hx hb hd rfl hl hn rfl (fun la hl => k H locs la (hs ▸ pw_s2 hc hl) hP hS)
theorem r_lstore (C : PC X sh G M Q) {i : Nat} {x : Int} (hn : i + 1 < M.2.2.1) (hc : pw_c ls i = true) (hs : (ls.set i (some (vL x))).set (i + 1) none = ls') (hd : decode M.2.1 pc = .ok (.lstore i, 2)) (k : PW X sh G (pc + 2) ls' st σ) : PW X sh G pc ls (vL x :: st) σ := by
  obtain ⟨p, l, e, R, s, m, args, below, meth, c, A, Z, n⟩ := X
  obtain ⟨hx, hb, ⟨hml, rfl⟩, hown, hts, hr, hlk, hK, hD, hA, hR, hZ⟩ := C
  intro H locs la hl hP hS
  exact lv_lstore hx hb hd hl hn rfl (fun la hl => k H locs la (hs ▸ pw_s2 hc hl) hP hS)
theorem r_iinc (C : PC X sh G M Q) {i : Nat} {z x : Int} (hl0 : ls[i]? = some (some (vI x))) (hn : i < M.2.2.1) (hc : pw_c ls i = true) (hs : ls.set i (some (vI (x + z))) = ls') (hd : decode M.2.1 pc = .ok (.iinc i z, 3)) (k : PW X sh G (pc + 3) ls' st σ) : PW X sh G pc ls st σ := by
  obtain ⟨p, l, e, R, s, m, args, below, meth, c, A, Z, n⟩ := X
  obtain ⟨hx, hb, ⟨hml, rfl⟩, hown, hts, hr, hlk, hK, hD, hA, hR, hZ⟩ := C
  intro H locs la hl hP hS
  obtain ⟨kk, hkk⟩ := List.getElem?_of_mem ((pw_l_mem ls 0 i (vI x)).mpr ⟨i, by omega, hl0⟩)
  exact lv_iinc (v := iI (x + z)) hx hb hd hl hkk (iI_add x z) hn rfl (fun la hl => k H locs la (hs ▸ pw_s1 hc hl) hP hS)
theorem r_goto (C : PC X sh G M Q) {off : Int} {tgt : Nat} (ht : (pc : Int) + off = (tgt : Int)) (hd : decode M.2.1 pc = .ok (.goto off, 3)) (k : PW X sh G tgt ls st σ) : PW X sh G pc ls st σ := by
  obtain ⟨p, l, e, R, s, m, args, below, meth, c, A, Z, n⟩ := X
  obtain ⟨hx, hb, ⟨hml, rfl⟩, hown, hts, hr, hlk, hK, hD, hA, hR, hZ⟩ := C
  intro H locs la hl hP hS
  exact lv_goto hx hb hd ht (k H locs la hl hP hS)
theorem r_icmp_eq (C : PC X sh G M Q) {off : Int} {tgt : Nat} {x y : Int} (ht : (pc : Int) + off = (tgt : Int)) (h1 : InI x) (h2 : InI y) (hd : decode M.2.1 pc = .ok (.if_icmp .eq off, 3)) (kt : x = y → PW X sh G tgt ls st σ) (kf : ¬ (x = y) → PW X sh G (pc + 3) ls st σ) : PW X sh G pc ls (vI y :: vI x :: st) σ := by
  obtain ⟨p, l, e, R, s, m, args, below, meth, c, A, Z, n⟩ := X
  obtain ⟨hx, hb, ⟨hml, rfl⟩, hown, hts, hr, hlk, hK, hD, hA, hR, hZ⟩ := C
  intro H locs la hl hP hS
  exact lv_icmp_eq hx hb hd ht (fun q => kt ((iI_eq h1 h2).mp q) H locs la hl hP hS) (fun q => kf (fun z => q ((iI_eq h1 h2).mpr z)) H locs la hl hP hS)
theorem r_if_eq (C : PC X sh G M Q) {off : Int} {tgt : Nat} {x : Int} (ht : (pc : Int) + off = (tgt : Int)) (h1 : InI x) (hd : decode M.2.1 pc = .ok (.ifCond .eq off, 3)) (kt : x = 0 → PW X sh G tgt ls st σ) (kf : ¬ (x = 0) → PW X sh G (pc + 3) ls st σ) : PW X sh G pc ls (vI x :: st) σ := by
  obtain ⟨p, l, e, R, s, m, args, below, meth, c, A, Z, n⟩ := X
  obtain ⟨hx, hb, ⟨hml, rfl⟩, hown, hts, hr, hlk, hK, hD, hA, hR, hZ⟩ := C
  intro H locs la hl hP hS
  exact lv_if_eq hx hb hd ht (fun q => kt ((iI_eq h1 (b := 0) ⟨by omega, by omega⟩).mp q) H locs la hl hP hS) (fun q => kf (fun z => q ((iI_eq h1 (b := 0) ⟨by omega, by omega⟩).mpr z)) H locs la hl hP hS)
theorem r_icmp_ne (C : PC X sh G M Q) {off : Int} {tgt : Nat} {x y : Int} (ht : (pc : Int) + off = (tgt : Int)) (h1 : InI x) (h2 : InI y) (hd : decode M.2.1 pc = .ok (.if_icmp .ne off, 3)) (kt : x ≠ y → PW X sh G tgt ls st σ) (kf : ¬ (x ≠ y) → PW X sh G (pc + 3) ls st σ) : PW X sh G pc ls (vI y :: vI x :: st) σ := by
  obtain ⟨p, l, e, R, s, m, args, below, meth, c, A, Z, n⟩ := X
  obtain ⟨hx, hb, ⟨hml, rfl⟩, hown, hts, hr, hlk, hK, hD, hA, hR, hZ⟩ := C
  intro H locs la hl hP hS
  exact lv_icmp_ne hx hb hd ht (fun q => kt (fun z => q ((iI_eq h1 h2).mpr z)) H locs la hl hP hS) (fun q => kf (fun z => z (by first | exact (iI_eq h1 h2).mp q | exact (iI_eq h1 h2).mp (Decidable.not_not.mp q))) H locs la hl hP hS)
theorem r_if_ne (C : PC X sh G M Q) {off : Int} {tgt : Nat} {x : Int} (ht : (pc : Int) + off = (tgt : Int)) (h1 : InI x) (hd : decode M.2.1 pc = .ok (.ifCond .ne off, 3)) (kt : x ≠ 0 → PW X sh G tgt ls st σ) (kf : ¬ (x ≠ 0) → PW X sh G (pc + 3) ls st σ) : PW X sh G pc ls (vI x :: st) σ := by
  obtain ⟨p, l, e, R, s, m, args, below, meth, c, A, Z, n⟩ := X
  obtain ⟨hx, hb, ⟨hml, rfl⟩, hown, hts, hr, hlk, hK, hD, hA, hR, hZ⟩ := C
  intro H locs la hl hP hS
  exact lv_if_ne hx hb hd ht (fun q => kt (fun z => q ((iI_eq h1 (b := 0) ⟨by omega, by omega⟩).mpr z)) H locs la hl hP hS) (fun q => kf (fun z => z (by first | exact (iI_eq h1 (b := 0) ⟨by omega, by omega⟩).mp q | exact (iI_eq h1 (b := 0) ⟨by omega, by omega⟩).mp (Decidable.not_not.mp q))) H locs la hl hP hS)
theorem r_icmp_lt (C : PC X sh G M Q) {off : Int} {tgt : Nat} {x y : Int} (ht : (pc : Int) + off = (tgt : Int)) (h1 : InI x) (h2 : InI y) (hd : decode M.2.1 pc = .ok (.if_icmp .lt off, 3)) (kt : x < y → PW X sh G tgt ls st σ) (kf : ¬ (x < y) → PW X sh G (pc + 3) ls st σ) : PW X sh G pc ls (vI y :: vI x :: st) σ := by
  obtain ⟨p, l, e, R, s, m, args, below, meth, c, A, Z, n⟩ := X
  obtain ⟨hx, hb, ⟨hml, rfl⟩, hown, hts, hr, hlk, hK, hD, hA, hR, hZ⟩ := C
  intro H locs la hl hP hS
  exact lv_icmp_lt hx hb hd ht (fun q => kt ((iI_lt h1 h2).mp q) H locs la hl hP hS) (fun q => kf (fun z => q ((iI_lt h1 h2).mpr z)) H locs la hl hP hS)
theorem r_if_lt (C : PC X sh G M Q) {off : Int} {tgt : Nat} {x : Int} (ht : (pc : Int) + off = (tgt : Int)) (h1 : InI x) (hd : decode M.2.1 pc = .ok (.ifCond .lt off, 3)) (kt : x < 0 → PW X sh G tgt ls st σ) (kf : ¬ (x < 0) → PW X sh G (pc + 3) ls st σ) : PW X sh G pc ls (vI x :: st) σ := by
  obtain ⟨p, l, e, R, s, m, args, below, meth, c, A, Z, n⟩ := X
  obtain ⟨hx, hb, ⟨hml, rfl⟩, hown, hts, hr, hlk, hK, hD, hA, hR, hZ⟩ := C
  intro H locs la hl hP hS
  exact lv_if_lt hx hb hd ht (fun q => kt ((iI_lt h1 (b := 0) ⟨by omega, by omega⟩).mp q) H locs la hl hP hS) (fun q => kf (fun z => q ((iI_lt h1 (b := 0) ⟨by omega, by omega⟩).mpr z)) H locs la hl hP hS)
theorem r_icmp_ge (C : PC X sh G M Q) {off : Int} {tgt : Nat} {x y : Int} (ht : (pc : Int) + off = (tgt : Int)) (h1 : InI x) (h2 : InI y) (hd : decode M.2.1 pc = .ok (.if_icmp .ge off, 3)) (kt : y ≤ x → PW X sh G tgt ls st σ) (kf : ¬ (y ≤ x) → PW X sh G (pc + 3) ls st σ) : PW X sh G pc ls (vI y :: vI x :: st) σ := by
  obtain ⟨p, l, e, R, s, m, args, below, meth, c, A, Z, n⟩ := X
  obtain ⟨hx, hb, ⟨hml, rfl⟩, hown, hts, hr, hlk, hK, hD, hA, hR, hZ⟩ := C
  intro H locs la hl hP hS
  exact lv_icmp_ge hx hb hd ht (fun q => kt ((iI_le h2 h1).mp q) H locs la hl hP hS) (fun q => kf (fun z => q ((iI_le h2 h1).mpr z)) H locs la hl hP hS)
theorem r_if_ge (C : PC X sh G M Q) {off : Int} {tgt : Nat} {x : Int} (ht : (pc : Int) + off = (tgt : Int)) (h1 : InI x) (hd : decode M.2.1 pc = .ok (.ifCond .ge off, 3)) (kt : 0 ≤ x → PW X sh G tgt ls st σ) (kf : ¬ (0 ≤ x) → PW X sh G (pc + 3) ls st σ) : PW X sh G pc ls (vI x :: st) σ := by
  obtain ⟨p, l, e, R, s, m, args, below, meth, c, A, Z, n⟩ := X
  obtain ⟨hx, hb, ⟨hml, rfl⟩, hown, hts, hr, hlk, hK, hD, hA, hR, hZ⟩ := C
  intro H locs la hl hP hS
  exact lv_if_ge hx hb hd ht (fun q => kt ((iI_le (a := 0) ⟨by omega, by omega⟩ h1).mp q) H locs la hl hP hS) (fun q => kf (fun z => q ((iI_le (a := 0) ⟨by omega, by omega⟩ h1).mpr z)) H locs la hl hP hS)
theorem r_icmp_gt (C : PC X sh G M Q) {off : Int} {tgt : Nat} {x y : Int} (ht : (pc : Int) + off = (tgt : Int)) (h1 : InI x) (h2 : InI y) (hd : decode M.2.1 pc = .ok (.if_icmp .gt off, 3)) (kt : y < x → PW X sh G tgt ls st σ) (kf : ¬ (y < x) → PW X sh G (pc + 3) ls st σ) : PW X sh G pc ls (vI y :: vI x :: st) σ := by
  obtain ⟨p, l, e, R, s, m, args, below, meth, c, A, Z, n⟩ := X
  obtain ⟨hx, hb, ⟨hml, rfl⟩, hown, hts, hr, hlk, hK, hD, hA, hR, hZ⟩ := C
  intro H locs la hl hP hS
  exact lv_icmp_gt hx hb hd ht (fun q => kt ((iI_lt h2 h1).mp q) H locs la hl hP hS) (fun q => kf (fun z => q ((iI_lt h2 h1).mpr z)) H locs la hl hP hS)
theorem r_if_gt (C : PC X sh G M Q) {off : Int} {tgt : Nat} {x : Int} (ht : (pc : Int) + off = (tgt : Int)) (h1 : InI x) (hd : decode M.2.1 pc = .ok (.ifCond .gt off, 3)) (kt : 0 < x → PW X sh G tgt ls st σ) (kf : ¬ (0 < x) → PW X sh G (pc + 3) ls st σ) : PW X sh G pc ls (vI x :: st) σ := by
  obtain ⟨p, l, e, R, s, m, args, below, meth, c, A, Z, n⟩ := X
  obtain ⟨hx, hb, ⟨hml, rfl⟩, hown, hts, hr, hlk, hK, hD, hA, hR, hZ⟩ := C
  intro H locs la hl hP hS
  exact lv_if_gt hx hb hd ht (fun q => kt ((iI_lt (a := 0) ⟨by omega, by omega⟩ h1).mp q) H locs la hl hP hS) (fun q => kf (fun z => q ((iI_lt (a := 0) ⟨by omega, by omega⟩ h1).mpr z)) H locs la hl hP hS)
theorem r_icmp_le (C : PC X sh G M Q) {off : Int} {tgt : Nat} {x y : Int} (ht : (pc : Int) + off = (tgt : Int)) (h1 : InI x) (h2 : InI y) (hd : decode M.2.1 pc = .ok (.if_icmp .le off, 3)) (kt : x ≤ y → PW X sh G tgt ls st σ) (kf : ¬ (x ≤ y) → PW X sh G (pc + 3) ls st σ) : PW X sh G pc ls (vI y :: vI x :: st) σ := by
  obtain ⟨p, l, e, R, s, m, args, below, meth, c, A, Z, n⟩ := X
  obtain ⟨hx, hb, ⟨hml, rfl⟩, hown, hts, hr, hlk, hK, hD, hA, hR, hZ⟩ := C
  intro H locs la hl hP hS
  exact lv_icmp_le hx hb hd ht (fun q => kt ((iI_le h1 h2).mp q) H locs la hl hP hS) (fun q => kf (fun z => q ((iI_le h1 h2).mpr z)) H locs la hl hP hS)
theorem r_if_le (C : PC X sh G M Q) {off : Int} {tgt : Nat} {x : Int} (ht : (pc : Int) + off = (tgt : Int)) (h1 : InI x) (hd : decode M.2.1 pc = .ok (.ifCond .le off, 3)) (kt : x ≤ 0 → PW X sh G tgt ls st σ) (kf : ¬ (x ≤ 0) → PW X sh G (pc + 3) ls st σ) : PW X sh G pc ls (vI x :: st) σ := by
  obtain ⟨p, l, e, R, s, m, args, below, meth, c, A, Z, n⟩ := X
  obtain ⟨hx, hb, ⟨hml, rfl⟩, hown, hts, hr, hlk, hK, hD, hA, hR, hZ⟩ := C
  intro H locs la hl hP hS
  exact lv_if_le hx hb hd ht (fun q => kt ((iI_le h1 (b := 0) ⟨by omega, by omega⟩).mp q) H locs la hl hP hS) (fun q => kf (fun z => q ((iI_le h1 (b := 0) ⟨by omega, by omega⟩).mpr z)) H locs la hl hP hS)
theorem r_lcmp (C : PC X sh G M Q) {x y z : Int} (h : lg_cmp (lI x) (lI y) = iI z) (hd : decode M.2.1 pc = .ok (.lcmp, 1)) (k : PW X sh G (pc + 1) ls (vI z :: st) σ) : PW X sh G pc ls (vL y :: vL x :: st) σ := by
  obtain ⟨p, l, e, R, s, m, args, below, meth, c, A, Z, n⟩ := X
  obtain ⟨hx, hb, ⟨hml, rfl⟩, hown, hts, hr, hlk, hK, hD, hA, hR, hZ⟩ := C
  intro H locs la hl hP hS
  exact W.lcmp hx hb hd (by rw [h]; exact k H locs la hl hP hS)
theorem r_tableIn (C : PC X sh G M Q) {dflt lo hi : Int} {offs : Array Int} {len : Nat} {x off : Int} {tgt : Nat} (h0 : InI x) (h1 : ¬ x < lo) (h2 : ¬ hi < x) (ho : offs[(x - lo).toNat]? = some off) (ht : (pc : Int) + off = (tgt : Int)) (hd : decode M.2.1 pc = .ok (.tableswitch dflt lo hi offs, len)) (k : PW X sh G tgt ls st σ) : PW X sh G pc ls (vI x :: st) σ := by
  obtain ⟨p, l, e, R, s, m, args, below, meth, c, A, Z, n⟩ := X
  obtain ⟨hx, hb, ⟨hml, rfl⟩, hown, hts, hr, hlk, hK, hD, hA, hR, hZ⟩ := C
  intro H locs la hl hP hS
  exact lv_tableIn hx hb hd (by rw [iI_t h0]; exact h1) (by rw [iI_t h0]; exact h2) (by rw [iI_t h0]; exact ho) ht (k H locs la hl hP hS)
theorem r_tableOut (C : PC X sh G M Q) {dflt lo hi : Int} {offs : Array Int} {len : Nat} {x : Int} {tgt : Nat} (h0 : InI x) (h1 : x < lo ∨ hi < x) (ht : (pc : Int) + dflt = (tgt : Int)) (hd : decode M.2.1 pc = .ok (.tableswitch dflt lo hi offs, len)) (k : PW X sh G tgt ls st σ) : PW X sh G pc ls (vI x :: st) σ := by
  obtain ⟨p, l, e, R, s, m, args, below, meth, c, A, Z, n⟩ := X
  obtain ⟨hx, hb, ⟨hml, rfl⟩, hown, hts, hr, hlk, hK, hD, hA, hR, hZ⟩ := C
  intro H locs la hl hP hS
  exact lv_tableOut hx hb hd (by rw [iI_t h0]; exact h1) ht (k H locs la hl hP hS)
theorem r_lookup (C : PC X sh G M Q) {dflt : Int} {ps : Array (Int × Int)} {len : Nat} {x off : Int} {tgt : Nat} (h0 : InI x) (hp : (ps.toList.zip (ps.toList.drop 1)).all (fun (a, next) => a.1 < next.1) = true) (ho : Op.lookupswitch.offset ps.toList dflt x = off) (ht : (pc : Int) + off = (tgt : Int)) (hd : decode M.2.1 pc = .ok (.lookupswitch dflt ps, len)) (k : PW X sh G tgt ls st σ) : PW X sh G pc ls (vI x :: st) σ := by
  obtain ⟨p, l, e, R, s, m, args, below, meth, c, A, Z, n⟩ := X
  obtain ⟨hx, hb, ⟨hml, rfl⟩, hown, hts, hr, hlk, hK, hD, hA, hR, hZ⟩ := C
  intro H locs la hl hP hS
  exact lv_lookup hx hb hd hp (by rw [iI_t h0]; exact ho) ht (k H locs la hl hP hS)
theorem r_getI (C : PC X sh G M Q) {idx k : Nat} {jz : Int} {fs : List (Option Nat)} {Cn : String} {T : u_T} {N : Nat} (ci j : Nat) (hsh : sh[k]? = some (.inl (ci, fs))) (hc : vwCl[ci]? = some (Cn, T, N)) (hj : j < N) (hf : fs[j]? = some none) (hin : ∀ w ∈ u_ws Cn T N, w ∈ ALLW) (hw : Cond.fieldLink M.1.cls idx (T j).1 (T j).2.1 (T j).2.2.1 ∈ ALLW) (hjz : (j : Int) = jz) (hd : decode M.2.1 pc = .ok (.getfield idx, 3)) (kk : PW X sh G (pc + 3) ls (vI (σ k jz) :: st) σ) : PW X sh G pc ls (.ref (G.2.1 k) :: st) σ := by
  obtain ⟨p, l, e, R, s, m, args, below, meth, c, A, Z, n⟩ := X
  obtain ⟨hx, hb, ⟨hml, rfl⟩, hown, hts, hr, hlk, hK, hD, hA, hR, hZ⟩ := C
  intro H locs la hl hP hS
  subst hjz
  exact va_get (D := G.1) (ci := ci) (v := vI (σ k (j : Int))) (C := Cn) (T := T) (N := N) hx hb hts hin hown hK.1 hP k (pw_at hsh) hc j hj (hts _ hw) (fun _ h9 => h9) (by simp [pw_f, List.getElem?_mapIdx, hf]) hd (kk H locs la hl hP hS)
theorem r_getR (C : PC X sh G M Q) {idx k k2 : Nat} {fs : List (Option Nat)} {Cn : String} {T : u_T} {N : Nat} (ci j : Nat) (hsh : sh[k]? = some (.inl (ci, fs))) (hc : vwCl[ci]? = some (Cn, T, N)) (hj : j < N) (hf : fs[j]? = some (some k2)) (hin : ∀ w ∈ u_ws Cn T N, w ∈ ALLW) (hw : Cond.fieldLink M.1.cls idx (T j).1 (T j).2.1 (T j).2.2.1 ∈ ALLW) (hd : decode M.2.1 pc = .ok (.getfield idx, 3)) (kk : PW X sh G (pc + 3) ls (.ref (G.2.1 k2) :: st) σ) : PW X sh G pc ls (.ref (G.2.1 k) :: st) σ := by
  obtain ⟨p, l, e, R, s, m, args, below, meth, c, A, Z, n⟩ := X
  obtain ⟨hx, hb, ⟨hml, rfl⟩, hown, hts, hr, hlk, hK, hD, hA, hR, hZ⟩ := C
  intro H locs la hl hP hS
  exact va_get (D := G.1) (ci := ci) (v := .ref (G.2.1 k2)) (C := Cn) (T := T) (N := N) hx hb hts hin hown hK.1 hP k (pw_at hsh) hc j hj (hts _ hw) (fun _ h9 => h9) (by simp [pw_f, List.getElem?_mapIdx, hf]) hd (kk H locs la hl hP hS)
theorem pw_fset {ad : Nat → Nat} {fs : List (Option Nat)} {σ : pw_H} {k j : Nat} {x : Int} (hf : fs[j]? = some none) : (fs.mapIdx (pw_f ad (σ k))).set j (.int (iI x)) = fs.mapIdx (pw_f ad (pw_u σ k (j : Int) x k)) := by
  apply List.ext_getElem?
  intro i
  rw [List.getElem?_set]
  have hk : j < fs.length := (List.getElem?_eq_some_iff.mp hf).1
  by_cases hi : j = i
  · subst hi
    rw [if_pos rfl, if_pos (by simpa using hk), List.getElem?_mapIdx, hf]
    simp [pw_f, pw_u]
  · rw [if_neg hi]
    simp only [List.getElem?_mapIdx]
    cases fs[i]? with
    | none => rfl
    | some r => cases r with
      | none => simp only [Option.map_some, pw_f]; rw [pw_u_j (by omega)]
      | some r => rfl
theorem r_putI (C : PC X sh G M Q) {idx k : Nat} {fs : List (Option Nat)} {Cn : String} {T : u_T} {N : Nat} {x jz : Int} (ci j : Nat) (ty0 : Nat → FieldType) (hty : ∀ k, k < N → parseFieldDescriptor (T k).2.2.1 = some (ty0 k)) (hnm : ∀ a, a < N → ∀ b, b < N → a ≠ b → (T a).2.1 ≠ (T b).2.1) (hsh : sh[k]? = some (.inl (ci, fs))) (hc : vwCl[ci]? = some (Cn, T, N)) (hj : j < N) (hf : fs[j]? = some none) (hin : ∀ w ∈ u_ws Cn T N, w ∈ ALLW) (hw : Cond.fieldLink M.1.cls idx (T j).1 (T j).2.1 (T j).2.2.1 ∈ ALLW) (hfin : (T j).2.2.2 = false) (hint : (T j).2.2.1 = "I") (hjz : (j : Int) = jz) (hd : decode M.2.1 pc = .ok (.putfield idx, 3)) (kk : PW X sh G (pc + 3) ls st (pw_u σ k jz x)) : PW X sh G pc ls (vI x :: .ref (G.2.1 k) :: st) σ := by
  obtain ⟨p, l, e, R, s, m, args, below, meth, c, A, Z, n⟩ := X
  obtain ⟨hx, hb, ⟨hml, rfl⟩, hown, hts, hr, hlk, hK, hD, hA, hR, hZ⟩ := C
  intro H locs la hl hP hS
  subst hjz
  refine va_put (D := G.1) (ci := ci) (v := vI x) (ty := .int) (C := Cn) (T := T) (N := N) hx hb hts hin ty0 hty hnm hown hK.1 hP (pw_dom hD) hS k (pw_at hsh) hc j hj (hts _ hw) (fun _ h9 => h9) hfin (by rw [hint]; decide +kernel) rfl rfl (by simp; exact (List.getElem?_eq_some_iff.mp hf).1) hd (fun H locs hP hD hS => ?_)
  have e : (pw_w sh G σ).set k (G.2.1 k, .inr (ci, (fs.mapIdx (pw_f G.2.1 (σ k))).set j (vI x))) = pw_w sh G (pw_u σ k (j : Int) x) := by
    rw [pw_fset hf]; exact pw_set hsh
  exact kk H locs la hl (e ▸ hP) hS
theorem r_iaload (C : PC X sh G M Q) {k n : Nat} {z : Int} (hsh : sh[k]? = some (.inr (false, n))) (hn : n < 2147483648) (hz : 0 ≤ z ∧ z < n) (hd : decode M.2.1 pc = .ok (.iaload, 1)) (kk : PW X sh G (pc + 1) ls (vI (σ k z) :: st) σ) : PW X sh G pc ls (vI z :: .ref (G.2.1 k) :: st) σ := by
  obtain ⟨p, l, e, R, s, m, args, below, meth, c, A, Z, n⟩ := X
  obtain ⟨hx, hb, ⟨hml, rfl⟩, hown, hts, hr, hlk, hK, hD, hA, hR, hZ⟩ := C
  intro H locs la hl hP hS
  refine va_iald (D := G.1) hx hb hK.1 hP k 0 (pw_at hsh) rfl (iI_in hn hz.1 hz.2) hd ?_
  have e : ((((iI z).toNatClampNeg : Nat)) : Int) = z := iI_cl ⟨by omega, by omega⟩ hz.1
  rw [e]
  exact kk H locs la hl hP hS
theorem r_laload (C : PC X sh G M Q) {k n : Nat} {z : Int} (hsh : sh[k]? = some (.inr (true, n))) (hn : n < 2147483648) (hz : 0 ≤ z ∧ z < n) (hd : decode M.2.1 pc = .ok (.laload, 1)) (kk : PW X sh G (pc + 1) ls (vL (σ k z) :: st) σ) : PW X sh G pc ls (vI z :: .ref (G.2.1 k) :: st) σ := by
  obtain ⟨p, l, e, R, s, m, args, below, meth, c, A, Z, n⟩ := X
  obtain ⟨hx, hb, ⟨hml, rfl⟩, hown, hts, hr, hlk, hK, hD, hA, hR, hZ⟩ := C
  intro H locs la hl hP hS
  refine va_lald (D := G.1) hx hb hK.1 hP k 1 (pw_at hsh) rfl (iI_in hn hz.1 hz.2) hd ?_
  have e : ((((iI z).toNatClampNeg : Nat)) : Int) = z := iI_cl ⟨by omega, by omega⟩ hz.1
  rw [e]
  exact kk H locs la hl hP hS
theorem r_iastore (C : PC X sh G M Q) {k n : Nat} {z x : Int} (hsh : sh[k]? = some (.inr (false, n))) (hn : n < 2147483648) (hz : 0 ≤ z ∧ z < n) (hd : decode M.2.1 pc = .ok (.iastore, 1)) (kk : PW X sh G (pc + 1) ls st (pw_u σ k z x)) : PW X sh G pc ls (vI x :: vI z :: .ref (G.2.1 k) :: st) σ := by
  obtain ⟨p, l, e, R, s, m, args, below, meth, c, A, Z, n⟩ := X
  obtain ⟨hx, hb, ⟨hml, rfl⟩, hown, hts, hr, hlk, hK, hD, hA, hR, hZ⟩ := C
  intro H locs la hl hP hS
  refine va_iast (D := G.1) hx hb hK.1 hP (pw_dom hD) hS k 0 (pw_at hsh) rfl (iI_in hn hz.1 hz.2) hd (fun H locs hP hD hS => ?_)
  have e : ((((iI z).toNatClampNeg : Nat)) : Int) = z := iI_cl ⟨by omega, by omega⟩ hz.1
  have e2 : upd (fun (j : Nat) => iI (σ k (j : Int))) (iI z).toNatClampNeg (iI x) = fun (j : Nat) => iI (pw_u σ k z x k (j : Int)) := by
    funext j
    by_cases q : j = (iI z).toNatClampNeg
    · rw [q, pk_us, e, pw_u_s]
    · rw [pk_un q, pw_u_j (by omega)]
  rw [e2] at hP
  exact kk H locs la hl (pw_set hsh ▸ hP) hS
theorem r_lastore (C : PC X sh G M Q) {k n : Nat} {z x : Int} (hsh : sh[k]? = some (.inr (true, n))) (hn : n < 2147483648) (hz : 0 ≤ z ∧ z < n) (hd : decode M.2.1 pc = .ok (.lastore, 1)) (kk : PW X sh G (pc + 1) ls st (pw_u σ k z x)) : PW X sh G pc ls (vL x :: vI z :: .ref (G.2.1 k) :: st) σ := by
  obtain ⟨p, l, e, R, s, m, args, below, meth, c, A, Z, n⟩ := X
  obtain ⟨hx, hb, ⟨hml, rfl⟩, hown, hts, hr, hlk, hK, hD, hA, hR, hZ⟩ := C
  intro H locs la hl hP hS
  refine va_last (D := G.1) hx hb hK.1 hP (pw_dom hD) hS k 1 (pw_at hsh) rfl (iI_in hn hz.1 hz.2) hd (fun H locs hP hD hS => ?_)
  have e : ((((iI z).toNatClampNeg : Nat)) : Int) = z := iI_cl ⟨by omega, by omega⟩ hz.1
  have e2 : vp_updL (fun (j : Nat) => lI (σ k (j : Int))) (iI z).toNatClampNeg (lI x) = fun (j : Nat) => lI (pw_u σ k z x k (j : Int)) := by
    funext j
    by_cases q : j = (iI z).toNatClampNeg
    · rw [q, pk_uLs, e, pw_u_s]
    · rw [pk_uLn q, pw_u_j (by omega)]
  rw [e2] at hP
  exact kk H locs la hl (pw_set hsh ▸ hP) hS
theorem r_alen (C : PC X sh G M Q) {k n : Nat} {b : Bool} (hsh : sh[k]? = some (.inr (b, n))) (hd : decode M.2.1 pc = .ok (.arraylength, 1)) (kk : PW X sh G (pc + 1) ls (vI (n : Int) :: st) σ) : PW X sh G pc ls (.ref (G.2.1 k) :: st) σ := by
  obtain ⟨p, l, e, R, s, m, args, below, meth, c, A, Z, n⟩ := X
  obtain ⟨hx, hb, ⟨hml, rfl⟩, hown, hts, hr, hlk, hK, hD, hA, hR, hZ⟩ := C
  intro H locs la hl hP hS
  cases b with
  | false => exact va_alen (D := G.1) hx hb hK.1 hP k 0 (pw_at hsh) rfl (iI_nat n) hd (kk H locs la hl hP hS)
  | true => exact va_alen (D := G.1) hx hb hK.1 hP k 1 (pw_at hsh) rfl (iI_nat n) hd (kk H locs la hl hP hS)
/-! answers -/
theorem pw_ans {X : PXT} {A : Nat → Prop} {s t : State} {H : Heap} {locs : List Loc} {args : Array Value} {v : Option Value} (hQ : Q v σ) (ht : t.heap = H) (hP : va_P G.1 vwCl (pw_w sh G σ) H) (hS : va_S A s.heap H locs) : pw_Q sh G Q A args s (.returned v) t :=
  ⟨⟨v, σ, rfl, hQ, by unfold pw_B; rw [ht]; exact hP⟩, hS.F ht⟩
theorem r_ireturn {Q : Option Value → pw_H → Prop} (C : PC X sh G M Q) (hret : M.2.2.2.1 = some .int) {x : Int} (hQ : Q (some (vI x)) σ) (hd : decode M.2.1 pc = .ok (.ireturn, 1)) : PW X sh G pc ls [vI x] σ := by
  obtain ⟨p, l, e, R, s, m, args, below, meth, c, A, Z, n⟩ := X
  obtain ⟨hx, hb, ⟨hml, rfl⟩, hown, hts, hr, hlk, hK, hD, hA, hR, hZ⟩ := C
  intro H locs la hl hP hS
  subst hZ
  exact W.iret hx hb (hr.trans hret) (fun t ht _ => pw_ans (X := (p, l, e, R, s, m, args, below, meth, c, A, (fun _ => True), 0)) hQ ht hP hS) hS.2.2 hd
theorem r_zreturn {Q : Option Value → pw_H → Prop} (C : PC X sh G M Q) (hret : M.2.2.2.1 = some .boolean) {x : Int} (h01 : x = 0 ∨ x = 1) (hQ : Q (some (vI x)) σ) (hd : decode M.2.1 pc = .ok (.ireturn, 1)) : PW X sh G pc ls [vI x] σ := by
  obtain ⟨p, l, e, R, s, m, args, below, meth, c, A, Z, n⟩ := X
  obtain ⟨hx, hb, ⟨hml, rfl⟩, hown, hts, hr, hlk, hK, hD, hA, hR, hZ⟩ := C
  intro H locs la hl hP hS
  subst hZ
  exact W.zret hx hb (hr.trans hret) (by rcases h01 with rfl | rfl <;> rfl) (fun t ht _ => pw_ans (X := (p, l, e, R, s, m, args, below, meth, c, A, (fun _ => True), 0)) hQ ht hP hS) hS.2.2 hd
theorem r_lreturn {Q : Option Value → pw_H → Prop} (C : PC X sh G M Q) (hret : M.2.2.2.1 = some .long) {x : Int} (hQ : Q (some (vL x)) σ) (hd : decode M.2.1 pc = .ok (.lreturn, 1)) : PW X sh G pc ls [vL x] σ := by
  obtain ⟨p, l, e, R, s, m, args, below, meth, c, A, Z, n⟩ := X
  obtain ⟨hx, hb, ⟨hml, rfl⟩, hown, hts, hr, hlk, hK, hD, hA, hR, hZ⟩ := C
  intro H locs la hl hP hS
  subst hZ
  exact W.lret hx hb (hr.trans hret) (fun t ht _ => pw_ans (X := (p, l, e, R, s, m, args, below, meth, c, A, (fun _ => True), 0)) hQ ht hP hS) hS.2.2 hd
theorem r_return {Q : Option Value → pw_H → Prop} (C : PC X sh G M Q) (hret : M.2.2.2.1 = none) (hQ : Q none σ) (hd : decode M.2.1 pc = .ok (.return_, 1)) : PW X sh G pc ls [] σ := by
  obtain ⟨p, l, e, R, s, m, args, below, meth, c, A, Z, n⟩ := X
  obtain ⟨hx, hb, ⟨hml, rfl⟩, hown, hts, hr, hlk, hK, hD, hA, hR, hZ⟩ := C
  intro H locs la hl hP hS
  subst hZ
  exact W.vret hx hb (hr.trans hret) (fun t ht _ => pw_ans (X := (p, l, e, R, s, m, args, below, meth, c, A, (fun _ => True), 0)) hQ ht hP hS) hS.2.2 hd
/-! calls -/
theorem pw_go {p : Program} {l : Launch} {e : Env} {R : Room} {s : State} {m : MethodId} {args : Array Value} {below : List Frame} {meth : Method} {c : Code} {H : Heap} {locs : List Loc} {A : Nat → Prop} {Z : State → Prop} {la : Array Slot} {st0 rest : List Value} {a : Array Value} {Q2 : Option Value → pw_H → Prop}
    (hr : va_Run p l e R s m args below meth c H locs 0 0 0 0 (F0 m pc la st0) rest (pw_Q sh G Q2 (va_A (pw_w sh G σ) H.size) a) (va_A (pw_w sh G σ) H.size)) (hS : va_S A s.heap H locs) (hA : ∀ q, va_A (pw_w sh G σ) H.size q → A q)
    (kk : ∀ (v : Option Value) (τ : pw_H) (H1 : Heap) (locs1 : List Loc), Q2 v τ → va_P G.1 vwCl (pw_w sh G τ) H1 → va_S A s.heap H1 locs1 → W p l e R s m args below meth c H1 locs1 0 0 Z (F0 m (pc + 3) la (v.toList ++ rest))) : W p l e R s m args below meth c H locs 0 0 Z (F0 m pc la st0) := by
  intro T hT Y
  obtain ⟨v, st₀, t, T', L, h0, Y', hL, e1, e2, ⟨⟨v', τ, hv, hp, hb⟩, hz, hk⟩, st⟩ := hr T hT Y
  cases hv
  rw [h0] at hz hk
  unfold pw_B at hb
  rw [← e1] at hb hz hk
  obtain ⟨t2, a1, b1⟩ := kk v τ T'.heap (locs ++ L) hp hb
    ⟨Nat.le_trans hS.1 hz, fun q h1 h2 => by rw [hk q (Nat.lt_of_lt_of_le h1 hS.1) (fun z => h2 (hA q z))]; exact hS.2.1 q h1 h2, fun q hq => by
      rcases List.mem_append.mp hq with h | h
      · exact hS.2.2 q h
      · exact hA _ (hL q h)⟩ T' rfl Y'
  exact ⟨t2, st t2 a1, b1⟩
theorem pw_free {A : Nat → Prop} {H0 H : Heap} {locs : List Loc} (hD : va_D A (pw_w sh G (fun _ _ => 0))) (hS : va_S A H0 H locs) (hA : ∀ q, H0.size ≤ q → A q) : ∀ q, va_A (pw_w sh G σ) H.size q → A q := by
  intro q h
  rcases h with ⟨k, e, h⟩ | h
  · exact (pw_dom (τ := σ) hD).2 k (q, e) h
  · exact hA q (Nat.le_trans hS.1 h)
theorem pw_blind {As : List Value} {sz : Nat} : FrameBlind (va_Pc As (pw_P sh G σ sz)) := fun a U g mk q => by
  obtain ⟨q0, q1, qP, qK, qD⟩ := q
  exact ⟨q0, q1, qP, qK.same, qD⟩
/-- a call of a static method of any class -/
theorem r_callS (C : PC X sh G M Q) {idx : Nat} {M2 : MB} {As stk : List Value} {Q2 : Option Value → pw_H → Prop} (hM : Ct X.2.1 sh G M2 As σ Q2) (hok : okS M2) (hlink : Cond.methodLink M.1.cls idx M2.1 ∈ ALLW) (hst : stk = As.reverse ++ st) (hn : As.length = M2.2.2.2.2.2.2) (hR1 : M2.2.2.2.2.1 + 1 ≤ M.2.2.2.2.1) (hR2 : 8 + (M2.2.2.1 + 11) + M2.2.2.2.2.2.1 ≤ M.2.2.2.2.2.1) (hcat : (st.map fun v => v.category).sum ≤ 8) (hd : decode M.2.1 pc = .ok (.invokestatic idx, 3)) (kk : ∀ v τ, Q2 v τ → PW X sh G (pc + 3) ls (v.toList ++ st) τ) : PW X sh G pc ls stk σ := by
  obtain ⟨p, l, e, R, s, m, args, below, meth, c, A, Z, n⟩ := X
  obtain ⟨hx, hb, ⟨hml, rfl⟩, hown, hts, hr, hlk, hK, hD, hA, ⟨hRf, hRl⟩, hZ⟩ := C
  subst hst
  intro H locs la hl hP hS
  exact pw_go (va_runS (As := As) (rest := st) ⟨hx, hb, hml, hown, hts⟩ (hM H.size) (va_cwS M2.2.2.2.2.2.2 hts (hok.good hlink) rfl rfl rfl ⟨hok.1.2.2.1.1, hok.1.2.2.1.2, hok.1.2.2.2⟩ ⟨by rw [hRf]; exact hR1, by rw [hRl]; exact hR2⟩) ⟨pw_blind, fun U hU hW => ⟨rfl, by rw [hU], by rw [hU]; exact hP, hK.alike hW, (pw_dom (τ := σ) hD).weaken (fun _ _ _ _ => trivial)⟩⟩ rfl hn hl.1 rfl (lv_room hcat) hd ⟨Nat.zero_le _, Nat.zero_le _⟩) hS (pw_free hD hS hA) (fun v τ H1 locs1 hq hP1 hS1 => kk v τ hq H1 locs1 la hl hP1 hS1)
/-- a call of an instance method: the receiver is cell k -/
theorem r_callV (C : PC X sh G M Q) {idx k ci : Nat} {M2 : MB} {As stk : List Value} {Q2 : Option Value → pw_H → Prop} {T : u_T} {N : Nat} {fs : List (Option Nat)} (hM : Ct X.2.1 sh G M2 (.ref (G.2.1 k) :: As) σ Q2) (hok : okV M2) (hlink : Cond.methodLink M.1.cls idx M2.1 ∈ ALLW) (hsh : sh[k]? = some (.inl (ci, fs))) (hc : vwCl[ci]? = some (M2.1.cls, T, N)) (hst : stk = As.reverse ++ .ref (G.2.1 k) :: st) (hn : As.length = M2.2.2.2.2.2.2) (hR1 : M2.2.2.2.2.1 + 1 ≤ M.2.2.2.2.1) (hR2 : 8 + (M2.2.2.1 + 11) + M2.2.2.2.2.2.1 ≤ M.2.2.2.2.2.1) (hcat : (st.map fun v => v.category).sum ≤ 8) (hd : decode M.2.1 pc = .ok (.invokevirtual idx, 3)) (kk : ∀ v τ, Q2 v τ → PW X sh G (pc + 3) ls (v.toList ++ st) τ) : PW X sh G pc ls stk σ := by
  obtain ⟨p, l, e, R, s, m, args, below, meth, c, A, Z, n⟩ := X
  obtain ⟨hx, hb, ⟨hml, rfl⟩, hown, hts, hr, hlk, hK, hD, hA, ⟨hRf, hRl⟩, hZ⟩ := C
  subst hst
  intro H locs la hl hP hS
  exact pw_go (va_runV (C := M2.1.cls) (As := As) (rest := st) ⟨hx, hb, hml, hown, hts⟩ (hM H.size) (cwV M2.2.2.2.2.2.2 hts (hok.good hlink) rfl rfl rfl ⟨rfl, hok.1.2.2.1.1, hok.1.2.2.1.2, hok.1.2.2.2⟩ ⟨by rw [hRf]; exact hR1, by rw [hRl]; exact hR2⟩) ⟨pw_blind, va_recv hK.1 hP hc (pw_at hsh), fun U hU hW => ⟨rfl, by rw [hU], by rw [hU]; exact hP, hK.alike hW, (pw_dom (τ := σ) hD).weaken (fun _ _ _ _ => trivial)⟩⟩ rfl hn hl.1 rfl (lv_room hcat) hd ⟨Nat.zero_le _, Nat.zero_le _⟩) hS (pw_free hD hS hA) (fun v τ H1 locs1 hq hP1 hS1 => kk v τ hq H1 locs1 la hl hP1 hS1)
/-- a call of the private static method 'leads' of the nest's host -/
theorem r_callN (C : PC X sh G M Q) {M2 : MB} {As stk : List Value} {Q2 : Option Value → pw_H → Prop} (hM : Ct X.2.1 sh G M2 As σ Q2) (hok : okS M2) (hname : M2.1 = yX5_leads) (howner : M.1.cls = RX1) (hst : stk = As.reverse ++ st) (hn : As.length = M2.2.2.2.2.2.2) (hR1 : M2.2.2.2.2.1 + 1 ≤ M.2.2.2.2.1) (hR2 : 8 + (M2.2.2.1 + 11) + M2.2.2.2.2.2.1 ≤ M.2.2.2.2.2.1) (hcat : (st.map fun v => v.category).sum ≤ 8) (hd : decode M.2.1 pc = .ok (.invokestatic 93, 3)) (kk : ∀ v τ, Q2 v τ → PW X sh G (pc + 3) ls (v.toList ++ st) τ) : PW X sh G pc ls stk σ := by
  obtain ⟨p, l, e, R, s, m, args, below, meth, c, A, Z, n⟩ := X
  obtain ⟨hx, hb, ⟨hml, rfl⟩, hown, hts, hr, hlk, hK, hD, hA, ⟨hRf, hRl⟩, hZ⟩ := C
  subst hst
  intro H locs la hl hP hS
  have hnw : va_Nw (.methodLinkNest M.1.cls 93 M2.1 RX5) s := by rw [hname, howner]; exact hK.2
  exact pw_go (va_runSN (host := RX5) (As := As) (rest := st) ⟨hx, hb, hml, hown, hts⟩ (hM H.size) ⟨va_cnB M2.2.2.2.2.2.2 hts hok.1.good rfl rfl rfl hnw (hts _ hok.1.1) ⟨hok.1.2.2.1.1, hok.1.2.2.1.2, hok.1.2.2.2⟩ ⟨by rw [hRf]; exact hR1, by rw [hRl]; exact hR2⟩, hts _ hok.2, trivial⟩ ⟨pw_blind, fun U hU hW => ⟨rfl, by rw [hU], by rw [hU]; exact hP, hK.alike hW, (pw_dom (τ := σ) hD).weaken (fun _ _ _ _ => trivial)⟩⟩ rfl hn hl.1 rfl (lv_room hcat) hd ⟨Nat.zero_le _, Nat.zero_le _⟩) hS (pw_free hD hS hA) (fun v τ H1 locs1 hq hP1 hS1 => kk v τ hq H1 locs1 la hl hP1 hS1)
theorem r_mabs (C : PC X sh G M Q) {idx : Nat} {x : Int} (h1 : InI x) (w1 : Cond.methodLink M.1.cls idx Lib.Math.abs.name ∈ ALLW) (w2 : Cond.static Lib.Math.abs.name ∈ ALLW) (w3 : Cond.initialized "java/lang/Math" ∈ ALLW) (w4 : Cond.code Lib.Math.abs.name Lib.Math.abs.code 1 (some .int) ∈ ALLW) (hf : 1 ≤ M.2.2.2.2.1) (hlo : (st.map fun v => v.category).sum + 13 ≤ M.2.2.2.2.2.1) (hd : decode M.2.1 pc = .ok (.invokestatic idx, 3)) (k : PW X sh G (pc + 3) ls (vI (zabs x) :: st) σ) : PW X sh G pc ls (vI x :: st) σ := by
  obtain ⟨p, l, e, R, s, m, args, below, meth, c, A, Z, n⟩ := X
  obtain ⟨hx, hb, ⟨hml, rfl⟩, hown, hts, hr, hlk, hK, hD, hA, ⟨hRf, hRl⟩, hZ⟩ := C
  intro H locs la hl hP hS
  refine va_mabs hx hb (hml.trans hl.1.symm) hown (hts _ w1) (hts _ w2) (hts _ w3) (hts _ w4) (by rw [hRf]; exact hf) (by rw [hRl]; exact hlo) (Nat.zero_le _) (Nat.zero_le _) hd ?_
  have e : (if 0 ≤ iI x then iI x else 0 - iI x) = iI (zabs x) := by
    rw [← iI_0]
    simp only [iI_le (a := 0) ⟨by omega, by omega⟩ h1, iI_sub, zabs]
    by_cases q : 0 ≤ x
    · rw [if_pos q, if_neg (by omega)]
    · rw [if_neg q, if_pos (by omega), Int.zero_sub]
  rw [e]
  exact k H locs la hl hP hS
theorem r_mmin (C : PC X sh G M Q) {idx : Nat} {x y : Int} (h1 : InI x) (h2 : InI y) (w1 : Cond.methodLink M.1.cls idx Lib.Math.min.name ∈ ALLW) (w2 : Cond.static Lib.Math.min.name ∈ ALLW) (w3 : Cond.initialized "java/lang/Math" ∈ ALLW) (w4 : Cond.code Lib.Math.min.name Lib.Math.min.code 2 (some .int) ∈ ALLW) (hf : 1 ≤ M.2.2.2.2.1) (hlo : (st.map fun v => v.category).sum + 13 ≤ M.2.2.2.2.2.1) (hd : decode M.2.1 pc = .ok (.invokestatic idx, 3)) (k : PW X sh G (pc + 3) ls (vI (zmin x y) :: st) σ) : PW X sh G pc ls (vI y :: vI x :: st) σ := by
  obtain ⟨p, l, e, R, s, m, args, below, meth, c, A, Z, n⟩ := X
  obtain ⟨hx, hb, ⟨hml, rfl⟩, hown, hts, hr, hlk, hK, hD, hA, ⟨hRf, hRl⟩, hZ⟩ := C
  intro H locs la hl hP hS
  refine va_mmin hx hb (hml.trans hl.1.symm) hown (hts _ w1) (hts _ w2) (hts _ w3) (hts _ w4) (by rw [hRf]; exact hf) (by rw [hRl]; exact hlo) (Nat.zero_le _) (Nat.zero_le _) hd ?_
  have e : (if iI y < iI x then iI y else iI x) = iI (zmin x y) := by
    simp only [iI_lt h2 h1, zmin]
    by_cases q : y < x
    · rw [if_pos q, if_pos q]
    · rw [if_neg q, if_neg q]
  rw [e]
  exact k H locs la hl hP hS
theorem r_mminL (C : PC X sh G M Q) {idx : Nat} {x y : Int} (h1 : InL x) (h2 : InL y) (w1 : Cond.methodLink M.1.cls idx Lib.MathLoose.min_long.x ∈ ALLW) (w2 : Cond.static Lib.MathLoose.min_long.x ∈ ALLW) (w3 : Cond.initialized "java/lang/Math" ∈ ALLW) (w4 : Cond.code Lib.MathLoose.min_long.x Lib.MathLoose.min_long.code 4 (some .long) ∈ ALLW) (hf : 1 ≤ M.2.2.2.2.1) (hlo : (st.map fun v => v.category).sum + 15 ≤ M.2.2.2.2.2.1) (hd : decode M.2.1 pc = .ok (.invokestatic idx, 3)) (k : PW X sh G (pc + 3) ls (vL (zmin x y) :: st) σ) : PW X sh G pc ls (vL y :: vL x :: st) σ := by
  obtain ⟨p, l, e, R, s, m, args, below, meth, c, A, Z, n⟩ := X
  obtain ⟨hx, hb, ⟨hml, rfl⟩, hown, hts, hr, hlk, hK, hD, hA, ⟨hRf, hRl⟩, hZ⟩ := C
  intro H locs la hl hP hS
  refine va_mmin_long hx hb (hml.trans hl.1.symm) hown (hts _ w1) (hts _ w2) (hts _ w3) (hts _ w4) (by rw [hRf]; exact hf) (by rw [hRl]; exact hlo) (Nat.zero_le _) (Nat.zero_le _) hd ?_
  have e : (if lI y < lI x then lI y else lI x) = lI (zmin x y) := by
    simp only [lI_lt h2 h1, zmin]
    by_cases q : y < x
    · rw [if_pos q, if_pos q]
    · rw [if_neg q, if_neg q]
  rw [e]
  exact k H locs la hl hP hS
/-! a truth value on the stack -/
theorem r_ifB_eq (C : PC X sh G M Q) {off : Int} {tgt : Nat} {b : Bool} (ht : (pc : Int) + off = (tgt : Int)) (hd : decode M.2.1 pc = .ok (.ifCond .eq off, 3)) (kt : b = false → PW X sh G tgt ls st σ) (kf : b = true → PW X sh G (pc + 3) ls st σ) : PW X sh G pc ls (vI (zB b) :: st) σ :=
  r_if_eq C ht (by cases b <;> exact ⟨by decide, by decide⟩) hd (fun q => kt (by cases b <;> first | rfl | exact absurd q (by decide))) (fun q => kf (by cases b <;> first | rfl | exact absurd rfl q))
theorem r_ifB_ne (C : PC X sh G M Q) {off : Int} {tgt : Nat} {b : Bool} (ht : (pc : Int) + off = (tgt : Int)) (hd : decode M.2.1 pc = .ok (.ifCond .ne off, 3)) (kt : b = true → PW X sh G tgt ls st σ) (kf : b = false → PW X sh G (pc + 3) ls st σ) : PW X sh G pc ls (vI (zB b) :: st) σ :=
  r_if_ne C ht (by cases b <;> exact ⟨by decide, by decide⟩) hd (fun q => kt (by cases b <;> first | rfl | exact absurd rfl q)) (fun q => kf (by cases b <;> first | rfl | exact absurd (by decide) q))
theorem r_breturn {Q : Option Value → pw_H → Prop} (C : PC X sh G M Q) (hret : M.2.2.2.1 = some .boolean) {b : Bool} (hQ : Q (some (vI (zB b))) σ) (hd : decode M.2.1 pc = .ok (.ireturn, 1)) : PW X sh G pc ls [vI (zB b)] σ :=
  r_zreturn C hret (by cases b <;> first | exact Or.inl rfl | exact Or.inr rfl) hQ hd
end ROWS
