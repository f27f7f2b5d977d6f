/-! the law from its entry -/
def s0X : pw_H := fun k j => match k with | 1 => if j = 5 then 6 else 0 | _ => 0
def s0M : pw_H := fun k j => match k with | 0 => if j = 5 then 6 else 0 | _ => 0
theorem s0_eq : vM s0M = vX s0X := by
  funext k j
  match k with
  | 0 =>
    show (if j = 0 then s0M 0 0 else if j = 1 then s0M 0 5 else if j = 2 then s0M 0 6 else 0) = (if j = 0 then s0X 1 4 else if j = 1 then s0X 1 5 else if j = 2 then s0X 2 1 else 0)
    rw [show s0M 0 0 = 0 by decide, show s0M 0 5 = 6 by decide, show s0M 0 6 = 0 by decide, show s0X 1 4 = 0 by decide, show s0X 1 5 = 6 by decide, show s0X 2 1 = 0 by decide]
  | 1 => rfl
  | 2 => rfl
  | 3 => rfl
  | 4 => rfl
  | 5 => rfl
  | 6 => rfl
  | 7 => rfl
  | k + 8 => rfl
theorem s0_inv : Inv (vX s0X) := by
  refine ⟨by decide, by decide, by decide, fun j => ?_, fun j => ?_, fun j => ?_, fun j => ?_, fun j => ?_, fun j _ => ?_, fun j => ?_, fun j => ?_⟩
  · show 0 ≤ (0 : Int) ∧ (0 : Int) ≤ 21599; decide
  · show -5400 ≤ (0 : Int) ∧ (0 : Int) ≤ 5400; decide
  · show -50 ≤ (0 : Int) ∧ (0 : Int) ≤ 50; decide
  · show 0 ≤ (0 : Int) ∧ (0 : Int) ≤ 6; decide
  · show 0 ≤ (0 : Int) ∧ (0 : Int) ≤ 8; decide
  · rfl
  · show 0 ≤ (0 : Int) ∧ (0 : Int) ≤ 21599; decide
  · show -5400 ≤ (0 : Int) ∧ (0 : Int) ≤ 5400; decide
def g_of (q : Nat) (ad : Nat → Nat) : Nat → Nat := fun k => match k with
  | 0 => q
  | k + 1 => ad (k + 1)
set_option maxRecDepth 100000 in
theorem w0X_0 (G : pw_G) (q : Nat) (ad : Nat → Nat) : Option.map (fun x => ((G.1, g_of q ad, G.2.2) : pw_G).2.1 0 |> fun t => (t, pw_e (G.1, g_of q ad, G.2.2) (s0X 0) x)) (shX[0]?) = (BX5_init G q ad)[0]? := by
  simp only [List.mapIdx_cons, List.mapIdx_nil, pw_e, List.getElem?_cons_zero, List.getElem?_cons_succ, Option.map_some]
  rfl
set_option maxRecDepth 100000 in
theorem w0X_1 (G : pw_G) (q : Nat) (ad : Nat → Nat) : Option.map (fun x => ((G.1, g_of q ad, G.2.2) : pw_G).2.1 1 |> fun t => (t, pw_e (G.1, g_of q ad, G.2.2) (s0X 1) x)) (shX[1]?) = (BX5_init G q ad)[1]? := by
  simp only [List.mapIdx_cons, List.mapIdx_nil, pw_e, List.getElem?_cons_zero, List.getElem?_cons_succ, Option.map_some]
  rfl
set_option maxRecDepth 100000 in
theorem w0X_2 (G : pw_G) (q : Nat) (ad : Nat → Nat) : Option.map (fun x => ((G.1, g_of q ad, G.2.2) : pw_G).2.1 2 |> fun t => (t, pw_e (G.1, g_of q ad, G.2.2) (s0X 2) x)) (shX[2]?) = (BX5_init G q ad)[2]? := by
  simp only [List.mapIdx_cons, List.mapIdx_nil, pw_e, List.getElem?_cons_zero, List.getElem?_cons_succ, Option.map_some]
  rfl
set_option maxRecDepth 100000 in
theorem w0X_3 (G : pw_G) (q : Nat) (ad : Nat → Nat) : Option.map (fun x => ((G.1, g_of q ad, G.2.2) : pw_G).2.1 3 |> fun t => (t, pw_e (G.1, g_of q ad, G.2.2) (s0X 3) x)) (shX[3]?) = (BX5_init G q ad)[3]? := by
  simp only [List.mapIdx_cons, List.mapIdx_nil, pw_e, List.getElem?_cons_zero, List.getElem?_cons_succ, Option.map_some]
  rfl
set_option maxRecDepth 100000 in
theorem w0X_4 (G : pw_G) (q : Nat) (ad : Nat → Nat) : Option.map (fun x => ((G.1, g_of q ad, G.2.2) : pw_G).2.1 4 |> fun t => (t, pw_e (G.1, g_of q ad, G.2.2) (s0X 4) x)) (shX[4]?) = (BX5_init G q ad)[4]? := by
  simp only [List.mapIdx_cons, List.mapIdx_nil, pw_e, List.getElem?_cons_zero, List.getElem?_cons_succ, Option.map_some]
  rfl
set_option maxRecDepth 100000 in
theorem w0X_5 (G : pw_G) (q : Nat) (ad : Nat → Nat) : Option.map (fun x => ((G.1, g_of q ad, G.2.2) : pw_G).2.1 5 |> fun t => (t, pw_e (G.1, g_of q ad, G.2.2) (s0X 5) x)) (shX[5]?) = (BX5_init G q ad)[5]? := by
  simp only [List.mapIdx_cons, List.mapIdx_nil, pw_e, List.getElem?_cons_zero, List.getElem?_cons_succ, Option.map_some]
  rfl
set_option maxRecDepth 100000 in
theorem w0X_6 (G : pw_G) (q : Nat) (ad : Nat → Nat) : Option.map (fun x => ((G.1, g_of q ad, G.2.2) : pw_G).2.1 6 |> fun t => (t, pw_e (G.1, g_of q ad, G.2.2) (s0X 6) x)) (shX[6]?) = (BX5_init G q ad)[6]? := by
  simp only [List.mapIdx_cons, List.mapIdx_nil, pw_e, List.getElem?_cons_zero, List.getElem?_cons_succ, Option.map_some]
  rfl
set_option maxRecDepth 100000 in
theorem w0X_7 (G : pw_G) (q : Nat) (ad : Nat → Nat) : Option.map (fun x => ((G.1, g_of q ad, G.2.2) : pw_G).2.1 7 |> fun t => (t, pw_e (G.1, g_of q ad, G.2.2) (s0X 7) x)) (shX[7]?) = (BX5_init G q ad)[7]? := by
  simp only [List.mapIdx_cons, List.mapIdx_nil, pw_e, List.getElem?_cons_zero, List.getElem?_cons_succ, Option.map_some]
  rfl
set_option maxRecDepth 100000 in
theorem w0X_8 (G : pw_G) (q : Nat) (ad : Nat → Nat) : Option.map (fun x => ((G.1, g_of q ad, G.2.2) : pw_G).2.1 8 |> fun t => (t, pw_e (G.1, g_of q ad, G.2.2) (s0X 8) x)) (shX[8]?) = (BX5_init G q ad)[8]? := by
  simp only [List.mapIdx_cons, List.mapIdx_nil, pw_e, List.getElem?_cons_zero, List.getElem?_cons_succ, Option.map_some]
  rfl
set_option maxRecDepth 100000 in
theorem w0X_9 (G : pw_G) (q : Nat) (ad : Nat → Nat) : Option.map (fun x => ((G.1, g_of q ad, G.2.2) : pw_G).2.1 9 |> fun t => (t, pw_e (G.1, g_of q ad, G.2.2) (s0X 9) x)) (shX[9]?) = (BX5_init G q ad)[9]? := by
  simp only [List.mapIdx_cons, List.mapIdx_nil, pw_e, List.getElem?_cons_zero, List.getElem?_cons_succ, Option.map_some]
  rfl
set_option maxRecDepth 100000 in
theorem w0X_10 (G : pw_G) (q : Nat) (ad : Nat → Nat) : Option.map (fun x => ((G.1, g_of q ad, G.2.2) : pw_G).2.1 10 |> fun t => (t, pw_e (G.1, g_of q ad, G.2.2) (s0X 10) x)) (shX[10]?) = (BX5_init G q ad)[10]? := by
  simp only [List.mapIdx_cons, List.mapIdx_nil, pw_e, List.getElem?_cons_zero, List.getElem?_cons_succ, Option.map_some]
  rfl
set_option maxRecDepth 100000 in
theorem w0X_11 (G : pw_G) (q : Nat) (ad : Nat → Nat) : Option.map (fun x => ((G.1, g_of q ad, G.2.2) : pw_G).2.1 11 |> fun t => (t, pw_e (G.1, g_of q ad, G.2.2) (s0X 11) x)) (shX[11]?) = (BX5_init G q ad)[11]? := by
  simp only [List.mapIdx_cons, List.mapIdx_nil, pw_e, List.getElem?_cons_zero, List.getElem?_cons_succ, Option.map_some]
  rfl
set_option maxRecDepth 100000 in
theorem w0X_12 (G : pw_G) (q : Nat) (ad : Nat → Nat) : Option.map (fun x => ((G.1, g_of q ad, G.2.2) : pw_G).2.1 12 |> fun t => (t, pw_e (G.1, g_of q ad, G.2.2) (s0X 12) x)) (shX[12]?) = (BX5_init G q ad)[12]? := by
  simp only [List.mapIdx_cons, List.mapIdx_nil, pw_e, List.getElem?_cons_zero, List.getElem?_cons_succ, Option.map_some]
  rfl
set_option maxRecDepth 100000 in
theorem w0X_13 (G : pw_G) (q : Nat) (ad : Nat → Nat) : Option.map (fun x => ((G.1, g_of q ad, G.2.2) : pw_G).2.1 13 |> fun t => (t, pw_e (G.1, g_of q ad, G.2.2) (s0X 13) x)) (shX[13]?) = (BX5_init G q ad)[13]? := by
  simp only [List.mapIdx_cons, List.mapIdx_nil, pw_e, List.getElem?_cons_zero, List.getElem?_cons_succ, Option.map_some]
  rfl
set_option maxRecDepth 100000 in
theorem w0X_14 (G : pw_G) (q : Nat) (ad : Nat → Nat) : Option.map (fun x => ((G.1, g_of q ad, G.2.2) : pw_G).2.1 14 |> fun t => (t, pw_e (G.1, g_of q ad, G.2.2) (s0X 14) x)) (shX[14]?) = (BX5_init G q ad)[14]? := by
  simp only [List.mapIdx_cons, List.mapIdx_nil, pw_e, List.getElem?_cons_zero, List.getElem?_cons_succ, Option.map_some]
  rfl
set_option maxRecDepth 100000 in
theorem w0X_15 (G : pw_G) (q : Nat) (ad : Nat → Nat) : Option.map (fun x => ((G.1, g_of q ad, G.2.2) : pw_G).2.1 15 |> fun t => (t, pw_e (G.1, g_of q ad, G.2.2) (s0X 15) x)) (shX[15]?) = (BX5_init G q ad)[15]? := by
  simp only [List.mapIdx_cons, List.mapIdx_nil, pw_e, List.getElem?_cons_zero, List.getElem?_cons_succ, Option.map_some]
  rfl
set_option maxRecDepth 100000 in
theorem w0X_16 (G : pw_G) (q : Nat) (ad : Nat → Nat) : Option.map (fun x => ((G.1, g_of q ad, G.2.2) : pw_G).2.1 16 |> fun t => (t, pw_e (G.1, g_of q ad, G.2.2) (s0X 16) x)) (shX[16]?) = (BX5_init G q ad)[16]? := by
  simp only [List.mapIdx_cons, List.mapIdx_nil, pw_e, List.getElem?_cons_zero, List.getElem?_cons_succ, Option.map_some]
  rfl
set_option maxRecDepth 100000 in
theorem w0X_17 (G : pw_G) (q : Nat) (ad : Nat → Nat) : Option.map (fun x => ((G.1, g_of q ad, G.2.2) : pw_G).2.1 17 |> fun t => (t, pw_e (G.1, g_of q ad, G.2.2) (s0X 17) x)) (shX[17]?) = (BX5_init G q ad)[17]? := by
  simp only [List.mapIdx_cons, List.mapIdx_nil, pw_e, List.getElem?_cons_zero, List.getElem?_cons_succ, Option.map_some]
  rfl
set_option maxRecDepth 100000 in
theorem w0X_18 (G : pw_G) (q : Nat) (ad : Nat → Nat) : Option.map (fun x => ((G.1, g_of q ad, G.2.2) : pw_G).2.1 18 |> fun t => (t, pw_e (G.1, g_of q ad, G.2.2) (s0X 18) x)) (shX[18]?) = (BX5_init G q ad)[18]? := by
  simp only [List.mapIdx_cons, List.mapIdx_nil, pw_e, List.getElem?_cons_zero, List.getElem?_cons_succ, Option.map_some]
  rfl
set_option maxRecDepth 100000 in
theorem w0X_19 (G : pw_G) (q : Nat) (ad : Nat → Nat) : Option.map (fun x => ((G.1, g_of q ad, G.2.2) : pw_G).2.1 19 |> fun t => (t, pw_e (G.1, g_of q ad, G.2.2) (s0X 19) x)) (shX[19]?) = (BX5_init G q ad)[19]? := by
  simp only [List.mapIdx_cons, List.mapIdx_nil, pw_e, List.getElem?_cons_zero, List.getElem?_cons_succ, Option.map_some]
  rfl
set_option maxRecDepth 100000 in
theorem w0X_20 (G : pw_G) (q : Nat) (ad : Nat → Nat) : Option.map (fun x => ((G.1, g_of q ad, G.2.2) : pw_G).2.1 20 |> fun t => (t, pw_e (G.1, g_of q ad, G.2.2) (s0X 20) x)) (shX[20]?) = (BX5_init G q ad)[20]? := by
  simp only [List.mapIdx_cons, List.mapIdx_nil, pw_e, List.getElem?_cons_zero, List.getElem?_cons_succ, Option.map_some]
  rfl
set_option maxRecDepth 100000 in
theorem w0X_21 (G : pw_G) (q : Nat) (ad : Nat → Nat) : Option.map (fun x => ((G.1, g_of q ad, G.2.2) : pw_G).2.1 21 |> fun t => (t, pw_e (G.1, g_of q ad, G.2.2) (s0X 21) x)) (shX[21]?) = (BX5_init G q ad)[21]? := by
  simp only [List.mapIdx_cons, List.mapIdx_nil, pw_e, List.getElem?_cons_zero, List.getElem?_cons_succ, Option.map_some]
  rfl
set_option maxRecDepth 100000 in
theorem w0M_0 (G : pw_G) (q : Nat) (ad : Nat → Nat) : Option.map (fun x => ((G.1, g_of q ad, G.2.2) : pw_G).2.1 0 |> fun t => (t, pw_e (G.1, g_of q ad, G.2.2) (s0M 0) x)) (shM[0]?) = (BX6_init G q ad)[0]? := by
  simp only [List.mapIdx_cons, List.mapIdx_nil, pw_e, List.getElem?_cons_zero, List.getElem?_cons_succ, Option.map_some]
  rfl
set_option maxRecDepth 100000 in
theorem w0M_1 (G : pw_G) (q : Nat) (ad : Nat → Nat) : Option.map (fun x => ((G.1, g_of q ad, G.2.2) : pw_G).2.1 1 |> fun t => (t, pw_e (G.1, g_of q ad, G.2.2) (s0M 1) x)) (shM[1]?) = (BX6_init G q ad)[1]? := by
  simp only [List.mapIdx_cons, List.mapIdx_nil, pw_e, List.getElem?_cons_zero, List.getElem?_cons_succ, Option.map_some]
  rfl
set_option maxRecDepth 100000 in
theorem w0M_2 (G : pw_G) (q : Nat) (ad : Nat → Nat) : Option.map (fun x => ((G.1, g_of q ad, G.2.2) : pw_G).2.1 2 |> fun t => (t, pw_e (G.1, g_of q ad, G.2.2) (s0M 2) x)) (shM[2]?) = (BX6_init G q ad)[2]? := by
  simp only [List.mapIdx_cons, List.mapIdx_nil, pw_e, List.getElem?_cons_zero, List.getElem?_cons_succ, Option.map_some]
  rfl
set_option maxRecDepth 100000 in
theorem w0M_3 (G : pw_G) (q : Nat) (ad : Nat → Nat) : Option.map (fun x => ((G.1, g_of q ad, G.2.2) : pw_G).2.1 3 |> fun t => (t, pw_e (G.1, g_of q ad, G.2.2) (s0M 3) x)) (shM[3]?) = (BX6_init G q ad)[3]? := by
  simp only [List.mapIdx_cons, List.mapIdx_nil, pw_e, List.getElem?_cons_zero, List.getElem?_cons_succ, Option.map_some]
  rfl
set_option maxRecDepth 100000 in
theorem w0M_4 (G : pw_G) (q : Nat) (ad : Nat → Nat) : Option.map (fun x => ((G.1, g_of q ad, G.2.2) : pw_G).2.1 4 |> fun t => (t, pw_e (G.1, g_of q ad, G.2.2) (s0M 4) x)) (shM[4]?) = (BX6_init G q ad)[4]? := by
  simp only [List.mapIdx_cons, List.mapIdx_nil, pw_e, List.getElem?_cons_zero, List.getElem?_cons_succ, Option.map_some]
  rfl
set_option maxRecDepth 100000 in
theorem w0M_5 (G : pw_G) (q : Nat) (ad : Nat → Nat) : Option.map (fun x => ((G.1, g_of q ad, G.2.2) : pw_G).2.1 5 |> fun t => (t, pw_e (G.1, g_of q ad, G.2.2) (s0M 5) x)) (shM[5]?) = (BX6_init G q ad)[5]? := by
  simp only [List.mapIdx_cons, List.mapIdx_nil, pw_e, List.getElem?_cons_zero, List.getElem?_cons_succ, Option.map_some]
  rfl
set_option maxRecDepth 100000 in
theorem w0M_6 (G : pw_G) (q : Nat) (ad : Nat → Nat) : Option.map (fun x => ((G.1, g_of q ad, G.2.2) : pw_G).2.1 6 |> fun t => (t, pw_e (G.1, g_of q ad, G.2.2) (s0M 6) x)) (shM[6]?) = (BX6_init G q ad)[6]? := by
  simp only [List.mapIdx_cons, List.mapIdx_nil, pw_e, List.getElem?_cons_zero, List.getElem?_cons_succ, Option.map_some]
  rfl
set_option maxRecDepth 100000 in
theorem w0M_7 (G : pw_G) (q : Nat) (ad : Nat → Nat) : Option.map (fun x => ((G.1, g_of q ad, G.2.2) : pw_G).2.1 7 |> fun t => (t, pw_e (G.1, g_of q ad, G.2.2) (s0M 7) x)) (shM[7]?) = (BX6_init G q ad)[7]? := by
  simp only [List.mapIdx_cons, List.mapIdx_nil, pw_e, List.getElem?_cons_zero, List.getElem?_cons_succ, Option.map_some]
  rfl
set_option maxRecDepth 100000 in
theorem w0M_8 (G : pw_G) (q : Nat) (ad : Nat → Nat) : Option.map (fun x => ((G.1, g_of q ad, G.2.2) : pw_G).2.1 8 |> fun t => (t, pw_e (G.1, g_of q ad, G.2.2) (s0M 8) x)) (shM[8]?) = (BX6_init G q ad)[8]? := by
  simp only [List.mapIdx_cons, List.mapIdx_nil, pw_e, List.getElem?_cons_zero, List.getElem?_cons_succ, Option.map_some]
  rfl
set_option maxRecDepth 100000 in
theorem w0M_9 (G : pw_G) (q : Nat) (ad : Nat → Nat) : Option.map (fun x => ((G.1, g_of q ad, G.2.2) : pw_G).2.1 9 |> fun t => (t, pw_e (G.1, g_of q ad, G.2.2) (s0M 9) x)) (shM[9]?) = (BX6_init G q ad)[9]? := by
  simp only [List.mapIdx_cons, List.mapIdx_nil, pw_e, List.getElem?_cons_zero, List.getElem?_cons_succ, Option.map_some]
  rfl
set_option maxRecDepth 100000 in
theorem w0M_10 (G : pw_G) (q : Nat) (ad : Nat → Nat) : Option.map (fun x => ((G.1, g_of q ad, G.2.2) : pw_G).2.1 10 |> fun t => (t, pw_e (G.1, g_of q ad, G.2.2) (s0M 10) x)) (shM[10]?) = (BX6_init G q ad)[10]? := by
  simp only [List.mapIdx_cons, List.mapIdx_nil, pw_e, List.getElem?_cons_zero, List.getElem?_cons_succ, Option.map_some]
  rfl
set_option maxRecDepth 100000 in
theorem w0M_11 (G : pw_G) (q : Nat) (ad : Nat → Nat) : Option.map (fun x => ((G.1, g_of q ad, G.2.2) : pw_G).2.1 11 |> fun t => (t, pw_e (G.1, g_of q ad, G.2.2) (s0M 11) x)) (shM[11]?) = (BX6_init G q ad)[11]? := by
  simp only [List.mapIdx_cons, List.mapIdx_nil, pw_e, List.getElem?_cons_zero, List.getElem?_cons_succ, Option.map_some]
  rfl
set_option maxRecDepth 100000 in
theorem w0M_12 (G : pw_G) (q : Nat) (ad : Nat → Nat) : Option.map (fun x => ((G.1, g_of q ad, G.2.2) : pw_G).2.1 12 |> fun t => (t, pw_e (G.1, g_of q ad, G.2.2) (s0M 12) x)) (shM[12]?) = (BX6_init G q ad)[12]? := by
  simp only [List.mapIdx_cons, List.mapIdx_nil, pw_e, List.getElem?_cons_zero, List.getElem?_cons_succ, Option.map_some]
  rfl
set_option maxRecDepth 100000 in
theorem w0M_13 (G : pw_G) (q : Nat) (ad : Nat → Nat) : Option.map (fun x => ((G.1, g_of q ad, G.2.2) : pw_G).2.1 13 |> fun t => (t, pw_e (G.1, g_of q ad, G.2.2) (s0M 13) x)) (shM[13]?) = (BX6_init G q ad)[13]? := by
  simp only [List.mapIdx_cons, List.mapIdx_nil, pw_e, List.getElem?_cons_zero, List.getElem?_cons_succ, Option.map_some]
  rfl
set_option maxRecDepth 100000 in
theorem w0M_14 (G : pw_G) (q : Nat) (ad : Nat → Nat) : Option.map (fun x => ((G.1, g_of q ad, G.2.2) : pw_G).2.1 14 |> fun t => (t, pw_e (G.1, g_of q ad, G.2.2) (s0M 14) x)) (shM[14]?) = (BX6_init G q ad)[14]? := by
  simp only [List.mapIdx_cons, List.mapIdx_nil, pw_e, List.getElem?_cons_zero, List.getElem?_cons_succ, Option.map_some]
  rfl
set_option maxRecDepth 100000 in
theorem w0M_15 (G : pw_G) (q : Nat) (ad : Nat → Nat) : Option.map (fun x => ((G.1, g_of q ad, G.2.2) : pw_G).2.1 15 |> fun t => (t, pw_e (G.1, g_of q ad, G.2.2) (s0M 15) x)) (shM[15]?) = (BX6_init G q ad)[15]? := by
  simp only [List.mapIdx_cons, List.mapIdx_nil, pw_e, List.getElem?_cons_zero, List.getElem?_cons_succ, Option.map_some]
  rfl
theorem w0X (G : pw_G) (q : Nat) (ad : Nat → Nat) : pw_w shX (G.1, g_of q ad, G.2.2) s0X = BX5_init G q ad := by
  apply List.ext_getElem?
  intro i
  simp only [pw_w, List.getElem?_mapIdx]
  match i with
  | 0 => exact w0X_0 G q ad
  | 1 => exact w0X_1 G q ad
  | 2 => exact w0X_2 G q ad
  | 3 => exact w0X_3 G q ad
  | 4 => exact w0X_4 G q ad
  | 5 => exact w0X_5 G q ad
  | 6 => exact w0X_6 G q ad
  | 7 => exact w0X_7 G q ad
  | 8 => exact w0X_8 G q ad
  | 9 => exact w0X_9 G q ad
  | 10 => exact w0X_10 G q ad
  | 11 => exact w0X_11 G q ad
  | 12 => exact w0X_12 G q ad
  | 13 => exact w0X_13 G q ad
  | 14 => exact w0X_14 G q ad
  | 15 => exact w0X_15 G q ad
  | 16 => exact w0X_16 G q ad
  | 17 => exact w0X_17 G q ad
  | 18 => exact w0X_18 G q ad
  | 19 => exact w0X_19 G q ad
  | 20 => exact w0X_20 G q ad
  | 21 => exact w0X_21 G q ad
  | i + 22 => rfl
theorem w0M (G : pw_G) (q : Nat) (ad : Nat → Nat) : pw_w shM (G.1, g_of q ad, G.2.2) s0M = BX6_init G q ad := by
  apply List.ext_getElem?
  intro i
  simp only [pw_w, List.getElem?_mapIdx]
  match i with
  | 0 => exact w0M_0 G q ad
  | 1 => exact w0M_1 G q ad
  | 2 => exact w0M_2 G q ad
  | 3 => exact w0M_3 G q ad
  | 4 => exact w0M_4 G q ad
  | 5 => exact w0M_5 G q ad
  | 6 => exact w0M_6 G q ad
  | 7 => exact w0M_7 G q ad
  | 8 => exact w0M_8 G q ad
  | 9 => exact w0M_9 G q ad
  | 10 => exact w0M_10 G q ad
  | 11 => exact w0M_11 G q ad
  | 12 => exact w0M_12 G q ad
  | 13 => exact w0M_13 G q ad
  | 14 => exact w0M_14 G q ad
  | 15 => exact w0M_15 G q ad
  | i + 16 => rfl
