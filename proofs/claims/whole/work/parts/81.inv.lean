/-! what holds between calls holds behind each call -/
section INV
variable {a : pw_H} {j v : Int}
theorem Inv_1 (h : Inv a) (hv : 0 ≤ v ∧ v ≤ 21599) : Inv (pw_u a 1 j v) := by
  obtain ⟨i0, i1, i2, i3, i4, i5, i6, i7, i8, i9, i10⟩ := h
  refine ⟨i0, i1, i2, fun t => ?_, i4, i5, i6, i7, i8, i9, i10⟩
  by_cases q : t = j
  · subst q; rw [pw_u_s]; exact hv
  · rw [pw_u_j q]; exact i3 t
theorem Inv_2 (h : Inv a) (hv : -5400 ≤ v ∧ v ≤ 5400) : Inv (pw_u a 2 j v) := by
  obtain ⟨i0, i1, i2, i3, i4, i5, i6, i7, i8, i9, i10⟩ := h
  refine ⟨i0, i1, i2, i3, fun t => ?_, i5, i6, i7, i8, i9, i10⟩
  by_cases q : t = j
  · subst q; rw [pw_u_s]; exact hv
  · rw [pw_u_j q]; exact i4 t
theorem Inv_3 (h : Inv a) (hv : -50 ≤ v ∧ v ≤ 50) : Inv (pw_u a 3 j v) := by
  obtain ⟨i0, i1, i2, i3, i4, i5, i6, i7, i8, i9, i10⟩ := h
  refine ⟨i0, i1, i2, i3, i4, fun t => ?_, i6, i7, i8, i9, i10⟩
  by_cases q : t = j
  · subst q; rw [pw_u_s]; exact hv
  · rw [pw_u_j q]; exact i5 t
theorem Inv_4 (h : Inv a) (hv : 0 ≤ v ∧ v ≤ 6) : Inv (pw_u a 4 j v) := by
  obtain ⟨i0, i1, i2, i3, i4, i5, i6, i7, i8, i9, i10⟩ := h
  refine ⟨i0, i1, i2, i3, i4, i5, fun t => ?_, i7, i8, i9, i10⟩
  by_cases q : t = j
  · subst q; rw [pw_u_s]; exact hv
  · rw [pw_u_j q]; exact i6 t
theorem Inv_5 (h : Inv a) (hv : 0 ≤ v ∧ v ≤ 8) (hj : j < a 0 2) : Inv (pw_u a 5 j v) := by
  obtain ⟨i0, i1, i2, i3, i4, i5, i6, i7, i8, i9, i10⟩ := h
  refine ⟨i0, i1, i2, i3, i4, i5, i6, fun t => ?_, fun t ht => ?_, i9, i10⟩
  · by_cases q : t = j
    · subst q; rw [pw_u_s]; exact hv
    · rw [pw_u_j q]; exact i7 t
  · rw [pw_u_k (by decide)] at ht
    rw [pw_u_j (by omega)]; exact i8 t ht
theorem Inv_6 (h : Inv a) (hv : 0 ≤ v ∧ v ≤ 21599) : Inv (pw_u a 6 j v) := by
  obtain ⟨i0, i1, i2, i3, i4, i5, i6, i7, i8, i9, i10⟩ := h
  refine ⟨i0, i1, i2, i3, i4, i5, i6, i7, i8, fun t => ?_, i10⟩
  by_cases q : t = j
  · subst q; rw [pw_u_s]; exact hv
  · rw [pw_u_j q]; exact i9 t
theorem Inv_7 (h : Inv a) (hv : -5400 ≤ v ∧ v ≤ 5400) : Inv (pw_u a 7 j v) := by
  obtain ⟨i0, i1, i2, i3, i4, i5, i6, i7, i8, i9, i10⟩ := h
  refine ⟨i0, i1, i2, i3, i4, i5, i6, i7, i8, i9, fun t => ?_⟩
  by_cases q : t = j
  · subst q; rw [pw_u_s]; exact hv
  · rw [pw_u_j q]; exact i10 t
theorem Inv_00 (h : Inv a) (hv : 0 ≤ v ∧ v ≤ 8) : Inv (pw_u a 0 0 v) := by
  obtain ⟨i0, i1, i2, i3, i4, i5, i6, i7, i8, i9, i10⟩ := h
  refine ⟨by rw [pw_u_s]; exact hv, by rw [pw_u_j (by decide)]; exact i1, by rw [pw_u_j (by decide)]; exact i2, i3, i4, i5, i6, i7, fun t ht => ?_, i9, i10⟩
  rw [pw_u_j (by decide)] at ht
  exact i8 t ht
theorem Inv_01 (h : Inv a) (hv : 0 ≤ v ∧ v ≤ 6) : Inv (pw_u a 0 1 v) := by
  obtain ⟨i0, i1, i2, i3, i4, i5, i6, i7, i8, i9, i10⟩ := h
  refine ⟨by rw [pw_u_j (by decide)]; exact i0, by rw [pw_u_s]; exact hv, by rw [pw_u_j (by decide)]; exact i2, i3, i4, i5, i6, i7, fun t ht => ?_, i9, i10⟩
  rw [pw_u_j (by decide)] at ht
  exact i8 t ht
theorem Inv_02 (h : Inv a) (hv : a 0 2 ≤ v ∧ v ≤ 6) : Inv (pw_u a 0 2 v) := by
  obtain ⟨i0, i1, i2, i3, i4, i5, i6, i7, i8, i9, i10⟩ := h
  refine ⟨by rw [pw_u_j (by decide)]; exact i0, by rw [pw_u_j (by decide)]; exact i1, by rw [pw_u_s]; omega, i3, i4, i5, i6, i7, fun t ht => ?_, i9, i10⟩
  rw [pw_u_s] at ht
  exact i8 t (by omega)
theorem i_star {x w m b : Int} (hI : Inv a) : Inv (s_star a x w m b).2 := by
  unfold s_star
  split
  · exact hI
  · rename_i c
    split
    · exact hI
    · rename_i d
      have h0 := hI.1
      simp only [bPlace, Bool.not_eq_false, Bool.and_eq_true, bIn_iff] at c
      have hb := Inv_4 (j := a 0 0) (Inv_3 (j := a 0 0) (Inv_2 (j := a 0 0) (Inv_1 (j := a 0 0) hI c.1.1) c.1.2) c.2.1) c.2.2
      exact Inv_00 hb ⟨by omega, by omega⟩
theorem i_limit {n : Int} (hI : Inv a) : Inv (s_limit a n).2 := by
  unfold s_limit
  split
  · exact hI
  · rename_i c
    simp only [Bool.not_eq_false, bIn_iff] at c
    exact Inv_01 hI c
theorem i_list (hI : Inv a) : Inv (s_list a).2 := by
  unfold s_list
  split
  · exact hI
  · have h2 := hI.2.2.1
    exact Inv_02 hI ⟨by omega, by omega⟩
theorem i_line {l x w : Int} (hI : Inv a) : Inv (s_line a l x w).2 := by
  unfold s_line
  split
  · exact hI
  · rename_i c
    split
    · exact hI
    · rename_i d
      split
      · exact hI
      · have h5 := hI.2.2.2.2.2.2.2.1 l
        simp only [bPlace, Bool.not_eq_false, Bool.and_eq_true, bIn_iff] at d
        simp only [bList, Bool.not_eq_false, bIn_iff] at c
        exact Inv_7 (Inv_6 (Inv_5 hI ⟨by omega, by omega⟩ (by omega)) d.1) d.2
theorem i_mend {l i x w : Int} (hI : Inv a) : Inv (s_mend a l i x w).2 := by
  unfold s_mend
  split
  · exact hI
  · split
    · exact hI
    · rename_i d
      simp only [bPlace, Bool.not_eq_false, Bool.and_eq_true, bIn_iff] at d
      exact Inv_7 (Inv_6 hI d.1) d.2
theorem i_sky {s y : Int} (hI : Inv a) : Inv (s_sky a s y).2 := by
  have e : (s_sky a s y).2 = a := by
    unfold s_sky
    repeat' split
    all_goals rfl
  rw [e]; exact hI
theorem i_about {s w : Int} (hI : Inv a) : Inv (s_about a s w).2 := by
  have e : (s_about a s w).2 = a := by
    unfold s_about
    repeat' split
    all_goals rfl
  rw [e]; exact hI
theorem i_way {f t : Int} (hI : Inv a) : Inv (s_way a f t).2 := by
  have e : (s_way a f t).2 = a := by
    unfold s_way
    repeat' split
    all_goals rfl
  rw [e]; exact hI
theorem i_written {l i w : Int} (hI : Inv a) : Inv (s_written a l i w).2 := by
  have e : (s_written a l i w).2 = a := by
    unfold s_written
    repeat' split
    all_goals rfl
  rw [e]; exact hI
theorem i_round {l p : Int} (hI : Inv a) : Inv (s_round a l p).2 := by
  have e : (s_round a l p).2 = a := by
    unfold s_round
    repeat' split
    all_goals rfl
  rw [e]; exact hI
theorem i_slip {l i s y h : Int} (hI : Inv a) : Inv (s_slip a l i s y h).2 := by
  have e : (s_slip a l i s y h).2 = a := by
    unfold s_slip
    repeat' split
    all_goals rfl
  rw [e]; exact hI
theorem i_cost {l i s y h : Int} (hI : Inv a) : Inv (s_cost a l i s y h).2 := by
  have e : (s_cost a l i s y h).2 = a := by
    unfold s_cost
    repeat' split
    all_goals rfl
  rw [e]; exact hI
theorem i_best {l y h : Int} (hI : Inv a) : Inv (s_best a l y h).2 := by
  have e : (s_best a l y h).2 = a := by
    unfold s_best
    repeat' split
    all_goals rfl
  rw [e]; exact hI
theorem i_matched {l i y h : Int} (hI : Inv a) : Inv (s_matched a l i y h).2 := by
  have e : (s_matched a l i y h).2 = a := by
    unfold s_matched
    repeat' split
    all_goals rfl
  rw [e]; exact hI
theorem i_dated {l h f t : Int} (hI : Inv a) : Inv (s_dated a l h f t).2 := by
  have e : (s_dated a l h f t).2 = a := by
    unfold s_dated
    repeat' split
    all_goals rfl
  rw [e]; exact hI
theorem i_doubt {l h f t k : Int} (hI : Inv a) : Inv (s_doubt a l h f t k).2 := by
  have e : (s_doubt a l h f t k).2 = a := by
    unfold s_doubt
    repeat' split
    all_goals rfl
  rw [e]; exact hI
theorem i_shift {l y : Int} (hI : Inv a) : Inv (s_shift a l y).2 := by
  have e : (s_shift a l y).2 = a := by
    unfold s_shift
    repeat' split
    all_goals rfl
  rw [e]; exact hI
theorem i_fault {l s y h : Int} (hI : Inv a) : Inv (s_fault a l s y h).2 := by
  have e : (s_fault a l s y h).2 = a := by
    unfold s_fault
    repeat' split
    all_goals rfl
  rw [e]; exact hI
theorem i_share {p q y h : Int} (hI : Inv a) : Inv (s_share a p q y h).2 := by
  have e : (s_share a p q y h).2 = a := by
    unfold s_share
    repeat' split
    all_goals rfl
  rw [e]; exact hI
theorem i_apart {p q y h : Int} (hI : Inv a) : Inv (s_apart a p q y h).2 := by
  have e : (s_apart a p q y h).2 = a := by
    unfold s_apart
    repeat' split
    all_goals rfl
  rw [e]; exact hI
theorem i_tree {y h : Int} (hI : Inv a) : Inv (s_tree a y h).2 := by
  have e : (s_tree a y h).2 = a := by
    unfold s_tree
    repeat' split
    all_goals rfl
  rw [e]; exact hI
theorem i_row {i y h : Int} (hI : Inv a) : Inv (s_row a i y h).2 := by
  have e : (s_row a i y h).2 = a := by
    unfold s_row
    repeat' split
    all_goals rfl
  rw [e]; exact hI
theorem i_count {w : Int} (hI : Inv a) : Inv (s_count a w).2 := by
  have e : (s_count a w).2 = a := by
    unfold s_count
    repeat' split
    all_goals rfl
  rw [e]; exact hI
end INV
