/-! numbers: an Int32 (Int64) by its Int -/
def iI (z : Int) : Int32 := Int32.ofInt z
def lI (z : Int) : Int64 := Int64.ofInt z
abbrev InI (z : Int) : Prop := -2147483648 ≤ z ∧ z ≤ 2147483647
abbrev InL (z : Int) : Prop := -9223372036854775808 ≤ z ∧ z ≤ 9223372036854775807
abbrev vI (z : Int) : Value := .int (iI z)
abbrev vL (z : Int) : Value := .long (lI z)
theorem iI_t {z : Int} (h : InI z) : (iI z).toInt = z := Int32.toInt_ofInt_of_le (by omega) (by omega)
theorem lI_t {z : Int} (h : InL z) : (lI z).toInt = z := Int64.toInt_ofInt_of_le (by omega) (by omega)
theorem iI_x (x : Int32) : iI x.toInt = x := Int32.ofInt_toInt x
theorem iI_rng (x : Int32) : InI x.toInt := ⟨Int32.le_toInt x, by have := Int32.toInt_lt x; omega⟩
theorem iI_add (a b : Int) : iI a + iI b = iI (a + b) := (Int32.ofInt_add a b).symm
theorem iI_sub (a b : Int) : iI a - iI b = iI (a - b) := (Int32.ofInt_sub a b).symm
theorem iI_mul (a b : Int) : iI a * iI b = iI (a * b) := (Int32.ofInt_mul a b).symm
theorem iI_neg (a : Int) : -iI a = iI (-a) := (Int32.ofInt_neg a).symm
theorem lI_add (a b : Int) : lI a + lI b = lI (a + b) := (Int64.ofInt_add a b).symm
theorem iI_le {a b : Int} (ha : InI a) (hb : InI b) : iI a ≤ iI b ↔ a ≤ b := by
  rw [Int32.le_iff_toInt_le, iI_t ha, iI_t hb]
theorem iI_lt {a b : Int} (ha : InI a) (hb : InI b) : iI a < iI b ↔ a < b := by
  rw [Int32.lt_iff_toInt_lt, iI_t ha, iI_t hb]
theorem iI_eq {a b : Int} (ha : InI a) (hb : InI b) : iI a = iI b ↔ a = b :=
  ⟨fun h => by have := congrArg Int32.toInt h; rwa [iI_t ha, iI_t hb] at this, fun h => by rw [h]⟩
theorem lI_le {a b : Int} (ha : InL a) (hb : InL b) : lI a ≤ lI b ↔ a ≤ b := by
  rw [Int64.le_iff_toInt_le, lI_t ha, lI_t hb]
theorem lI_lt {a b : Int} (ha : InL a) (hb : InL b) : lI a < lI b ↔ a < b := by
  rw [Int64.lt_iff_toInt_lt, lI_t ha, lI_t hb]
theorem lI_eq {a b : Int} (ha : InL a) (hb : InL b) : lI a = lI b ↔ a = b :=
  ⟨fun h => by have := congrArg Int64.toInt h; rwa [lI_t ha, lI_t hb] at this, fun h => by rw [h]⟩
theorem iI_div {a b : Int} (ha : InI a) (hb : InI b) : iI a / iI b = iI (a.tdiv b) := by
  apply Int32.toInt_inj.mp
  rw [Int32.toInt_div, iI_t ha, iI_t hb, iI, Int32.toInt_ofInt]
theorem iI_rem {a b : Int} (ha : InI a) (hb : InI b) : iI a - iI a / iI b * iI b = iI (a.tmod b) := by
  rw [iI_div ha hb, iI_mul, iI_sub, Int.tmod_def, Int.mul_comm]
theorem iI_cl {z : Int} (h : InI z) (h0 : 0 ≤ z) : (((iI z).toNatClampNeg : Nat) : Int) = z := by
  rw [Int32.toNatClampNeg, iI_t h]; omega
theorem iI_in {z : Int} {n : Nat} (hn : n < 2147483648) (h0 : 0 ≤ z) (h1 : z < n) : vp_in (iI z) n :=
  vp_in_iff.mpr (by rw [iI_t ⟨by omega, by omega⟩]; exact ⟨h0, h1⟩)
theorem iI_nat (n : Nat) : Int32.ofNat n = iI (n : Int) := (Int32.ofInt_eq_ofNat (n := n)).symm
theorem iI_0 : iI 0 = 0 := rfl
/-! worlds of a fixed shape: objects whose references never change, arrays of a fixed length -/
abbrev pw_H : Type := Nat → Int → Int
abbrev pw_C : Type := (Nat × List (Option Nat)) ⊕ (Bool × Nat)
abbrev pw_S : Type := List pw_C
abbrev pw_G : Type := va_G × (Nat → Nat) × ClassId × ClassId
def pw_f (ad : Nat → Nat) (f : Int → Int) (j : Nat) (r : Option Nat) : Value := match r with
  | none => .int (iI (f (j : Int)))
  | some k => .ref (ad k)
def pw_e (G : pw_G) (f : Int → Int) (x : pw_C) : va_E := match x with
  | .inl o => .inr (o.1, o.2.mapIdx (pw_f G.2.1 f))
  | .inr (false, n) => .inl (G.2.2.1, n, .inl (fun j => iI (f (j : Int))))
  | .inr (true, n) => .inl (G.2.2.2, n, .inr (.inl (fun j => lI (f (j : Int)))))
def pw_w (sh : pw_S) (G : pw_G) (σ : pw_H) : va_W := sh.mapIdx (fun k x => (G.2.1 k, pw_e G (σ k) x))
def pw_u (σ : pw_H) (k : Nat) (j v : Int) : pw_H := fun k' j' => if k' = k ∧ j' = j then v else σ k' j'
theorem pw_u_s (σ : pw_H) (k : Nat) (j v : Int) : pw_u σ k j v k j = v := by simp [pw_u]
theorem pw_u_k {σ : pw_H} {k k' : Nat} {j j' v : Int} (h : k' ≠ k) : pw_u σ k j v k' j' = σ k' j' := by simp [pw_u, h]
theorem pw_u_j {σ : pw_H} {k k' : Nat} {j j' v : Int} (h : j' ≠ j) : pw_u σ k j v k' j' = σ k' j' := by simp [pw_u, h]
theorem pw_at {sh : pw_S} {G : pw_G} {σ : pw_H} {k : Nat} {x : pw_C} (h : sh[k]? = some x) : (pw_w sh G σ)[k]? = some (G.2.1 k, pw_e G (σ k) x) := by
  simp [pw_w, List.getElem?_mapIdx, h]
theorem pw_set {sh : pw_S} {G : pw_G} {σ : pw_H} {k : Nat} {x : pw_C} {j v : Int} (h : sh[k]? = some x) : (pw_w sh G σ).set k (G.2.1 k, pw_e G (pw_u σ k j v k) x) = pw_w sh G (pw_u σ k j v) := by
  apply List.ext_getElem?
  intro i
  rw [List.getElem?_set]
  have hk : k < sh.length := (List.getElem?_eq_some_iff.mp h).1
  by_cases hi : k = i
  · subst hi
    rw [if_pos rfl, if_pos (by simpa [pw_w] using hk), pw_at h]
  · rw [if_neg hi]
    simp only [pw_w, List.getElem?_mapIdx]
    have e : pw_u σ k j v i = σ i := by funext t; exact pw_u_k (fun q => hi q.symm)
    rw [e]
theorem pw_dom {A : Nat → Prop} {sh : pw_S} {G : pw_G} {σ τ : pw_H} (h : va_D A (pw_w sh G σ)) : va_D A (pw_w sh G τ) := by
  have e : ∀ (k : Nat) (q : Nat × va_E), (pw_w sh G τ)[k]? = some q → ∃ q', (pw_w sh G σ)[k]? = some q' ∧ q'.1 = q.1 := by
    intro k q hq
    simp only [pw_w, List.getElem?_mapIdx, Option.map_eq_some_iff] at hq ⊢
    obtain ⟨x, hx, rfl⟩ := hq
    exact ⟨_, ⟨x, hx, rfl⟩, rfl⟩
  refine ⟨fun i j p q hp hq hpq => ?_, fun k q hq => ?_⟩
  · obtain ⟨p', h1, e1⟩ := e i p hp
    obtain ⟨q', h2, e2⟩ := e j q hq
    exact h.1 i j p' q' h1 h2 (by rw [e1, e2, hpq])
  · obtain ⟨q', h2, e2⟩ := e k q hq
    exact e2 ▸ h.2 k q' h2
theorem pw_A {sh : pw_S} {G : pw_G} {σ τ : pw_H} {sz q : Nat} (h : va_A (pw_w sh G σ) sz q) : va_A (pw_w sh G τ) sz q := by
  rcases h with ⟨k, e, h⟩ | h
  · simp only [pw_w, List.getElem?_mapIdx, Option.map_eq_some_iff, Prod.mk.injEq] at h
    obtain ⟨x, hx, h1, h2⟩ := h
    refine Or.inl ⟨k, pw_e G (τ k) x, ?_⟩
    simp only [pw_w, List.getElem?_mapIdx, Option.map_eq_some_iff, Prod.mk.injEq]
    exact ⟨x, hx, h1, rfl⟩
  · exact Or.inr h
/-! locals by place -/
def pw_l : Nat → List (Option Value) → List (Nat × Value)
  | _, [] => []
  | i, none :: r => pw_l (i + 1) r
  | i, some v :: r => (i, v) :: pw_l (i + 1) r
theorem pw_l_mem (ls : List (Option Value)) : ∀ (i j : Nat) (v : Value), (j, v) ∈ pw_l i ls ↔ ∃ t, j = i + t ∧ ls[t]? = some (some v) := by
  induction ls with
  | nil => intro i j v; simp [pw_l]
  | cons a r ih =>
    intro i j v
    cases a with
    | none =>
      simp only [pw_l, ih]
      constructor
      · rintro ⟨t, rfl, h⟩
        exact ⟨t + 1, by omega, by simpa using h⟩
      · rintro ⟨t, rfl, h⟩
        cases t with
        | zero => simp at h
        | succ t => exact ⟨t, by omega, by simpa using h⟩
    | some w =>
      simp only [pw_l, List.mem_cons, ih, Prod.mk.injEq]
      constructor
      · rintro (⟨rfl, rfl⟩ | ⟨t, rfl, h⟩)
        · exact ⟨0, by omega, by simp⟩
        · exact ⟨t + 1, by omega, by simpa using h⟩
      · rintro ⟨t, rfl, h⟩
        cases t with
        | zero => left; simpa using h.symm
        | succ t => exact Or.inr ⟨t, by omega, by simpa using h⟩
theorem pw_lg {la : Array Slot} {n : Nat} {ls : List (Option Value)} {i : Nat} {v : Value} (h : lv_has la n (pw_l 0 ls)) (hi : ls[i]? = some (some v)) : la[i]? = some (.val v) :=
  h.2.2 (i, v) ((pw_l_mem ls 0 i v).mpr ⟨i, by omega, hi⟩)
def pw_c (ls : List (Option Value)) (i : Nat) : Bool := match i with
  | 0 => true
  | k + 1 => match ls[k]? with
    | some (some w) => w.category != 2
    | _ => true
theorem pw_c_ne {ls : List (Option Value)} {i j : Nat} {w : Value} (h : pw_c ls i = true) (hj : ls[j]? = some (some w)) (e : j + 1 = i) : w.category ≠ 2 := by
  subst e
  simp only [pw_c, hj] at h
  simpa using h
theorem pw_s1 {la : Array Slot} {n i : Nat} {v : Value} {ls : List (Option Value)} (hc : pw_c ls i = true)
    (h' : lv_has la n ((i, v) :: (pw_l 0 ls).filter (fun q => !(q.1 == i) && !(q.1 + 1 == i && q.2.category == 2)))) : lv_has la n (pw_l 0 (ls.set i (some v))) := by
  refine ⟨h'.1, h'.2.1, fun q hq => ?_⟩
  obtain ⟨j, w⟩ := q
  obtain ⟨t, ht, hw⟩ := (pw_l_mem _ 0 j w).mp hq
  have ht : j = t := by omega
  subst ht
  rw [List.getElem?_set] at hw
  by_cases e : i = j
  · rw [if_pos e] at hw
    split at hw
    · cases hw; subst e; exact h'.2.2 _ List.mem_cons_self
    · cases hw
  · rw [if_neg e] at hw
    refine h'.2.2 _ (List.mem_cons_of_mem _ (List.mem_filter.mpr ⟨(pw_l_mem _ 0 j w).mpr ⟨j, by omega, hw⟩, ?_⟩))
    have e2 : ¬ j = i := fun q => e q.symm
    by_cases e3 : j + 1 = i
    · have := pw_c_ne hc hw e3
      simp [e2, e3, this]
    · simp [e2, e3]
theorem pw_s2 {la : Array Slot} {n i : Nat} {v : Value} {ls : List (Option Value)} (hc : pw_c ls i = true)
    (h' : lv_has la n ((i, v) :: (pw_l 0 ls).filter (fun q => !(q.1 == i) && (!(q.1 == i + 1) && !(q.1 + 1 == i && q.2.category == 2))))) : lv_has la n (pw_l 0 ((ls.set i (some v)).set (i + 1) none)) := by
  refine ⟨h'.1, h'.2.1, fun q hq => ?_⟩
  obtain ⟨j, w⟩ := q
  obtain ⟨t, ht, hw⟩ := (pw_l_mem _ 0 j w).mp hq
  have ht : j = t := by omega
  subst ht
  rw [List.getElem?_set] at hw
  by_cases e0 : i + 1 = j
  · rw [if_pos e0] at hw
    split at hw <;> cases hw
  rw [if_neg e0, List.getElem?_set] at hw
  by_cases e : i = j
  · rw [if_pos e] at hw
    split at hw
    · cases hw; subst e; exact h'.2.2 _ List.mem_cons_self
    · cases hw
  · rw [if_neg e] at hw
    refine h'.2.2 _ (List.mem_cons_of_mem _ (List.mem_filter.mpr ⟨(pw_l_mem _ 0 j w).mpr ⟨j, by omega, hw⟩, ?_⟩))
    have e2 : ¬ j = i := fun q => e q.symm
    have e4 : ¬ j = i + 1 := fun q => e0 q.symm
    by_cases e3 : j + 1 = i
    · have := pw_c_ne hc hw e3
      simp [e2, e3, e4, this]
    · simp [e2, e3, e4]
