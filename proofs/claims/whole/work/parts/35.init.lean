/-! ===== the reference's constructor ===== -/
def m_S0 : m_S := (fun q => if q < 8 then none else some 0, fun _ => 0, fun _ => 0, fun _ => 0, fun _ => 0, fun _ => 0, fun _ => 0, fun _ => false, 0, fun _ => 0, fun _ => 0, fun _ => 0)
theorem wf_0 : m_wf m_S0 := by
  refine ⟨by decide, fun r i hr e => ?_, fun i hi => absurd hi (Nat.not_lt_zero i)⟩
  have e2 : (if r < 8 then none else some 0) = some i := e
  rw [if_pos hr] at e2
  cases e2
theorem in_put {H : ac_H} {mm q : Nat} {e o : ac_E} {R : ac_H → Prop} (hq : H q = none) (hm : H mm ≠ none) (K : ∀ X : ac_H, X mm = some o → X q = some e → (∀ b, b ≠ mm → b ≠ q → X b = H b) → R X) : R (ac_hs (ac_hs H q e) mm o) := by
  have n : q ≠ mm := fun z => hm (by rw [← z]; exact hq)
  exact K _ ac_hsE ((ac_hsN n).trans ac_hsE) (fun b b1 b2 => (ac_hsN b1).trans (ac_hsN b2))
theorem sn {α : Type} {a : α} : some a ≠ none := fun z => by cases z
theorem sp_X6_init {h : ac_H} {Q : ac_Q} {mm : Nat} (hq : h mm = some (.inl (9, ac_fr 9))) (h1 : ∀ h' ar, (∀ j, j < 8 → h (ar j) = none) → m_md h' mm ar m_S0 0 0 0 → m_fr mm ar h h' → Q (.inl none) h') : T_X6_init [.ref mm] h Q := by
  (intro P hP; conv => whnf)
  iterate 1 (refine hP _ _ _ _ _ _ ?_; conv => whnf)
  (refine hP _ _ _ _ _ _ ?_; conv => whnf)
  refine ⟨Nat.le_of_ble_eq_true rfl, ?_⟩
  iterate 2 (refine hP _ _ _ _ _ _ ?_; conv => whnf)
  (refine hP _ _ _ _ _ _ ?_; conv => whnf)
  refine ⟨by decide, 8, by decide, by decide, Nat.le_of_ble_eq_true rfl, Nat.le_of_ble_eq_true rfl, fun q0 g0 => ?_⟩
  (refine hP _ _ _ _ _ _ ?_; conv => whnf)
  refine ⟨_, (ac_hsN (fun z => by rw [← z, hq] at g0; cases g0)).trans hq, ?_⟩
  (conv => whnf)
  have n0 : q0 ≠ mm := fun z => by rw [z, hq] at g0; cases g0
  refine in_put (R := fun X => P _ _ _ X _ _) g0 (by rw [hq]; exact sn) (fun X0 a0 y0_0 f0 => ?_)
  have F0 : ∀ b, b ≠ mm → b ≠ q0 → X0 b = h b := f0
  have e0 : h q0 = none := g0
  iterate 2 (refine hP _ _ _ _ _ _ ?_; conv => whnf)
  (refine hP _ _ _ _ _ _ ?_; conv => whnf)
  refine ⟨by decide, 520, by decide, by decide, Nat.le_of_ble_eq_true rfl, Nat.le_of_ble_eq_true rfl, fun q1 g1 => ?_⟩
  (refine hP _ _ _ _ _ _ ?_; conv => whnf)
  refine ⟨_, (ac_hsN (fun z => by rw [← z, a0] at g1; cases g1)).trans a0, ?_⟩
  (conv => whnf)
  have n1 : q1 ≠ mm := fun z => by rw [z, a0] at g1; cases g1
  refine in_put (R := fun X => P _ _ _ X _ _) g1 (by rw [a0]; exact sn) (fun X1 a1 y1_1 f1 => ?_)
  have m0_1 : q0 ≠ q1 := fun z => by rw [z, g1] at y0_0; cases y0_0
  have y0_1 := (f1 q0 n0 m0_1).trans y0_0
  have F1 : ∀ b, b ≠ mm → b ≠ q0 → b ≠ q1 → X1 b = h b := fun b cm c0 c1 => (f1 b cm c1).trans (F0 b cm c0)
  have e1 : h q1 = none := (F0 q1 n1 (fun z => m0_1 z.symm)).symm.trans g1
  iterate 2 (refine hP _ _ _ _ _ _ ?_; conv => whnf)
  (refine hP _ _ _ _ _ _ ?_; conv => whnf)
  refine ⟨by decide, 520, by decide, by decide, Nat.le_of_ble_eq_true rfl, Nat.le_of_ble_eq_true rfl, fun q2 g2 => ?_⟩
  (refine hP _ _ _ _ _ _ ?_; conv => whnf)
  refine ⟨_, (ac_hsN (fun z => by rw [← z, a1] at g2; cases g2)).trans a1, ?_⟩
  (conv => whnf)
  have n2 : q2 ≠ mm := fun z => by rw [z, a1] at g2; cases g2
  refine in_put (R := fun X => P _ _ _ X _ _) g2 (by rw [a1]; exact sn) (fun X2 a2 y2_2 f2 => ?_)
  have m0_2 : q0 ≠ q2 := fun z => by rw [z, g2] at y0_1; cases y0_1
  have y0_2 := (f2 q0 n0 m0_2).trans y0_1
  have m1_2 : q1 ≠ q2 := fun z => by rw [z, g2] at y1_1; cases y1_1
  have y1_2 := (f2 q1 n1 m1_2).trans y1_1
  have F2 : ∀ b, b ≠ mm → b ≠ q0 → b ≠ q1 → b ≠ q2 → X2 b = h b := fun b cm c0 c1 c2 => (f2 b cm c2).trans (F1 b cm c0 c1)
  have e2 : h q2 = none := (F1 q2 n2 (fun z => m0_2 z.symm) (fun z => m1_2 z.symm)).symm.trans g2
  iterate 2 (refine hP _ _ _ _ _ _ ?_; conv => whnf)
  (refine hP _ _ _ _ _ _ ?_; conv => whnf)
  refine ⟨by decide, 520, by decide, by decide, Nat.le_of_ble_eq_true rfl, Nat.le_of_ble_eq_true rfl, fun q3 g3 => ?_⟩
  (refine hP _ _ _ _ _ _ ?_; conv => whnf)
  refine ⟨_, (ac_hsN (fun z => by rw [← z, a2] at g3; cases g3)).trans a2, ?_⟩
  (conv => whnf)
  have n3 : q3 ≠ mm := fun z => by rw [z, a2] at g3; cases g3
  refine in_put (R := fun X => P _ _ _ X _ _) g3 (by rw [a2]; exact sn) (fun X3 a3 y3_3 f3 => ?_)
  have m0_3 : q0 ≠ q3 := fun z => by rw [z, g3] at y0_2; cases y0_2
  have y0_3 := (f3 q0 n0 m0_3).trans y0_2
  have m1_3 : q1 ≠ q3 := fun z => by rw [z, g3] at y1_2; cases y1_2
  have y1_3 := (f3 q1 n1 m1_3).trans y1_2
  have m2_3 : q2 ≠ q3 := fun z => by rw [z, g3] at y2_2; cases y2_2
  have y2_3 := (f3 q2 n2 m2_3).trans y2_2
  have F3 : ∀ b, b ≠ mm → b ≠ q0 → b ≠ q1 → b ≠ q2 → b ≠ q3 → X3 b = h b := fun b cm c0 c1 c2 c3 => (f3 b cm c3).trans (F2 b cm c0 c1 c2)
  have e3 : h q3 = none := (F2 q3 n3 (fun z => m0_3 z.symm) (fun z => m1_3 z.symm) (fun z => m2_3 z.symm)).symm.trans g3
  iterate 2 (refine hP _ _ _ _ _ _ ?_; conv => whnf)
  (refine hP _ _ _ _ _ _ ?_; conv => whnf)
  refine ⟨by decide, 520, by decide, by decide, Nat.le_of_ble_eq_true rfl, Nat.le_of_ble_eq_true rfl, fun q4 g4 => ?_⟩
  (refine hP _ _ _ _ _ _ ?_; conv => whnf)
  refine ⟨_, (ac_hsN (fun z => by rw [← z, a3] at g4; cases g4)).trans a3, ?_⟩
  (conv => whnf)
  have n4 : q4 ≠ mm := fun z => by rw [z, a3] at g4; cases g4
  refine in_put (R := fun X => P _ _ _ X _ _) g4 (by rw [a3]; exact sn) (fun X4 a4 y4_4 f4 => ?_)
  have m0_4 : q0 ≠ q4 := fun z => by rw [z, g4] at y0_3; cases y0_3
  have y0_4 := (f4 q0 n0 m0_4).trans y0_3
  have m1_4 : q1 ≠ q4 := fun z => by rw [z, g4] at y1_3; cases y1_3
  have y1_4 := (f4 q1 n1 m1_4).trans y1_3
  have m2_4 : q2 ≠ q4 := fun z => by rw [z, g4] at y2_3; cases y2_3
  have y2_4 := (f4 q2 n2 m2_4).trans y2_3
  have m3_4 : q3 ≠ q4 := fun z => by rw [z, g4] at y3_3; cases y3_3
  have y3_4 := (f4 q3 n3 m3_4).trans y3_3
  have F4 : ∀ b, b ≠ mm → b ≠ q0 → b ≠ q1 → b ≠ q2 → b ≠ q3 → b ≠ q4 → X4 b = h b := fun b cm c0 c1 c2 c3 c4 => (f4 b cm c4).trans (F3 b cm c0 c1 c2 c3)
  have e4 : h q4 = none := (F3 q4 n4 (fun z => m0_4 z.symm) (fun z => m1_4 z.symm) (fun z => m2_4 z.symm) (fun z => m3_4 z.symm)).symm.trans g4
  iterate 2 (refine hP _ _ _ _ _ _ ?_; conv => whnf)
  (refine hP _ _ _ _ _ _ ?_; conv => whnf)
  refine ⟨by decide, 520, by decide, by decide, Nat.le_of_ble_eq_true rfl, Nat.le_of_ble_eq_true rfl, fun q5 g5 => ?_⟩
  (refine hP _ _ _ _ _ _ ?_; conv => whnf)
  refine ⟨_, (ac_hsN (fun z => by rw [← z, a4] at g5; cases g5)).trans a4, ?_⟩
  (conv => whnf)
  have n5 : q5 ≠ mm := fun z => by rw [z, a4] at g5; cases g5
  refine in_put (R := fun X => P _ _ _ X _ _) g5 (by rw [a4]; exact sn) (fun X5 a5 y5_5 f5 => ?_)
  have m0_5 : q0 ≠ q5 := fun z => by rw [z, g5] at y0_4; cases y0_4
  have y0_5 := (f5 q0 n0 m0_5).trans y0_4
  have m1_5 : q1 ≠ q5 := fun z => by rw [z, g5] at y1_4; cases y1_4
  have y1_5 := (f5 q1 n1 m1_5).trans y1_4
  have m2_5 : q2 ≠ q5 := fun z => by rw [z, g5] at y2_4; cases y2_4
  have y2_5 := (f5 q2 n2 m2_5).trans y2_4
  have m3_5 : q3 ≠ q5 := fun z => by rw [z, g5] at y3_4; cases y3_4
  have y3_5 := (f5 q3 n3 m3_5).trans y3_4
  have m4_5 : q4 ≠ q5 := fun z => by rw [z, g5] at y4_4; cases y4_4
  have y4_5 := (f5 q4 n4 m4_5).trans y4_4
  have F5 : ∀ b, b ≠ mm → b ≠ q0 → b ≠ q1 → b ≠ q2 → b ≠ q3 → b ≠ q4 → b ≠ q5 → X5 b = h b := fun b cm c0 c1 c2 c3 c4 c5 => (f5 b cm c5).trans (F4 b cm c0 c1 c2 c3 c4)
  have e5 : h q5 = none := (F4 q5 n5 (fun z => m0_5 z.symm) (fun z => m1_5 z.symm) (fun z => m2_5 z.symm) (fun z => m3_5 z.symm) (fun z => m4_5 z.symm)).symm.trans g5
  iterate 2 (refine hP _ _ _ _ _ _ ?_; conv => whnf)
  (refine hP _ _ _ _ _ _ ?_; conv => whnf)
  refine ⟨by decide, 12480, by decide, by decide, Nat.le_of_ble_eq_true rfl, Nat.le_of_ble_eq_true rfl, fun q6 g6 => ?_⟩
  (refine hP _ _ _ _ _ _ ?_; conv => whnf)
  refine ⟨_, (ac_hsN (fun z => by rw [← z, a5] at g6; cases g6)).trans a5, ?_⟩
  (conv => whnf)
  have n6 : q6 ≠ mm := fun z => by rw [z, a5] at g6; cases g6
  refine in_put (R := fun X => P _ _ _ X _ _) g6 (by rw [a5]; exact sn) (fun X6 a6 y6_6 f6 => ?_)
  have m0_6 : q0 ≠ q6 := fun z => by rw [z, g6] at y0_5; cases y0_5
  have y0_6 := (f6 q0 n0 m0_6).trans y0_5
  have m1_6 : q1 ≠ q6 := fun z => by rw [z, g6] at y1_5; cases y1_5
  have y1_6 := (f6 q1 n1 m1_6).trans y1_5
  have m2_6 : q2 ≠ q6 := fun z => by rw [z, g6] at y2_5; cases y2_5
  have y2_6 := (f6 q2 n2 m2_6).trans y2_5
  have m3_6 : q3 ≠ q6 := fun z => by rw [z, g6] at y3_5; cases y3_5
  have y3_6 := (f6 q3 n3 m3_6).trans y3_5
  have m4_6 : q4 ≠ q6 := fun z => by rw [z, g6] at y4_5; cases y4_5
  have y4_6 := (f6 q4 n4 m4_6).trans y4_5
  have m5_6 : q5 ≠ q6 := fun z => by rw [z, g6] at y5_5; cases y5_5
  have y5_6 := (f6 q5 n5 m5_6).trans y5_5
  have F6 : ∀ b, b ≠ mm → b ≠ q0 → b ≠ q1 → b ≠ q2 → b ≠ q3 → b ≠ q4 → b ≠ q5 → b ≠ q6 → X6 b = h b := fun b cm c0 c1 c2 c3 c4 c5 c6 => (f6 b cm c6).trans (F5 b cm c0 c1 c2 c3 c4 c5)
  have e6 : h q6 = none := (F5 q6 n6 (fun z => m0_6 z.symm) (fun z => m1_6 z.symm) (fun z => m2_6 z.symm) (fun z => m3_6 z.symm) (fun z => m4_6 z.symm) (fun z => m5_6 z.symm)).symm.trans g6
  iterate 2 (refine hP _ _ _ _ _ _ ?_; conv => whnf)
  (refine hP _ _ _ _ _ _ ?_; conv => whnf)
  refine ⟨by decide, 3120, by decide, by decide, Nat.le_of_ble_eq_true rfl, Nat.le_of_ble_eq_true rfl, fun q7 g7 => ?_⟩
  (refine hP _ _ _ _ _ _ ?_; conv => whnf)
  refine ⟨_, (ac_hsN (fun z => by rw [← z, a6] at g7; cases g7)).trans a6, ?_⟩
  (conv => whnf)
  have n7 : q7 ≠ mm := fun z => by rw [z, a6] at g7; cases g7
  refine in_put (R := fun X => P _ _ _ X _ _) g7 (by rw [a6]; exact sn) (fun X7 a7 y7_7 f7 => ?_)
  have m0_7 : q0 ≠ q7 := fun z => by rw [z, g7] at y0_6; cases y0_6
  have y0_7 := (f7 q0 n0 m0_7).trans y0_6
  have m1_7 : q1 ≠ q7 := fun z => by rw [z, g7] at y1_6; cases y1_6
  have y1_7 := (f7 q1 n1 m1_7).trans y1_6
  have m2_7 : q2 ≠ q7 := fun z => by rw [z, g7] at y2_6; cases y2_6
  have y2_7 := (f7 q2 n2 m2_7).trans y2_6
  have m3_7 : q3 ≠ q7 := fun z => by rw [z, g7] at y3_6; cases y3_6
  have y3_7 := (f7 q3 n3 m3_7).trans y3_6
  have m4_7 : q4 ≠ q7 := fun z => by rw [z, g7] at y4_6; cases y4_6
  have y4_7 := (f7 q4 n4 m4_7).trans y4_6
  have m5_7 : q5 ≠ q7 := fun z => by rw [z, g7] at y5_6; cases y5_6
  have y5_7 := (f7 q5 n5 m5_7).trans y5_6
  have m6_7 : q6 ≠ q7 := fun z => by rw [z, g7] at y6_6; cases y6_6
  have y6_7 := (f7 q6 n6 m6_7).trans y6_6
  have F7 : ∀ b, b ≠ mm → b ≠ q0 → b ≠ q1 → b ≠ q2 → b ≠ q3 → b ≠ q4 → b ≠ q5 → b ≠ q6 → b ≠ q7 → X7 b = h b := fun b cm c0 c1 c2 c3 c4 c5 c6 c7 => (f7 b cm c7).trans (F6 b cm c0 c1 c2 c3 c4 c5 c6)
  have e7 : h q7 = none := (F6 q7 n7 (fun z => m0_7 z.symm) (fun z => m1_7 z.symm) (fun z => m2_7 z.symm) (fun z => m3_7 z.symm) (fun z => m4_7 z.symm) (fun z => m5_7 z.symm) (fun z => m6_7 z.symm)).symm.trans g7
  iterate 2 (refine hP _ _ _ _ _ _ ?_; conv => whnf)
  have L : ∀ d j hx g, j + d = 8 → hx q0 = some (.inr (0, 8, .inl g)) → (∀ e, g e = if e < j then -1 else 0) → (∀ b, b ≠ q0 → hx b = X7 b) → P 77 [some (.ref mm), some (.int (nI j))] [] hx 8 18208 := by
    intro d
    induction d with
    | zero =>
      intro j hx g ej x1 x2 x3
      have ej' : j = 8 := by omega
      subst ej'
      iterate 3 (refine hP _ _ _ _ _ _ ?_; conv => whnf)
      refine br_t (by decide) ?_
      (refine hP _ _ _ _ _ _ ?_; conv => whnf)
      refine ⟨rfl, h1 hx (fun j => match j with
        | 0 => q0
        | 1 => q1
        | 2 => q2
        | 3 => q3
        | 4 => q4
        | 5 => q5
        | 6 => q6
        | _ => q7) (fun j hj => ?_) ⟨(x3 mm (fun z => n0 z.symm)).trans a7, ?_, (x3 q1 (fun z => m0_1 z.symm)).trans y1_7, (x3 q2 (fun z => m0_2 z.symm)).trans y2_7, (x3 q3 (fun z => m0_3 z.symm)).trans y3_7, (x3 q4 (fun z => m0_4 z.symm)).trans y4_7, (x3 q5 (fun z => m0_5 z.symm)).trans y5_7, (x3 q6 (fun z => m0_6 z.symm)).trans y6_7, (x3 q7 (fun z => m0_7 z.symm)).trans y7_7, (fun i j hi hj e => ?_), (fun j hj => ?_)⟩ (fun b hb hj => ?_), by decide, by decide⟩
      · match j, hj with
        | 0, _ => exact e0
        | 1, _ => exact e1
        | 2, _ => exact e2
        | 3, _ => exact e3
        | 4, _ => exact e4
        | 5, _ => exact e5
        | 6, _ => exact e6
        | 7, _ => exact e7
      · have eg : g = fun r => m_rv (m_rg m_S0 r) := by
          funext e
          rw [x2 e]
          show _ = m_rv (if e < 8 then none else some 0)
          by_cases c : e < 8
          · rw [if_pos c, if_pos c]
            rfl
          · rw [if_neg c, if_neg c]
            rfl
        rw [← eg]
        exact x1
      · match i, j, hi, hj, e with
        | 0, 0, _, _, _ => exact rfl
        | 0, 1, _, _, e => exact absurd e m0_1
        | 0, 2, _, _, e => exact absurd e m0_2
        | 0, 3, _, _, e => exact absurd e m0_3
        | 0, 4, _, _, e => exact absurd e m0_4
        | 0, 5, _, _, e => exact absurd e m0_5
        | 0, 6, _, _, e => exact absurd e m0_6
        | 0, 7, _, _, e => exact absurd e m0_7
        | 1, 0, _, _, e => exact absurd e.symm m0_1
        | 1, 1, _, _, _ => exact rfl
        | 1, 2, _, _, e => exact absurd e m1_2
        | 1, 3, _, _, e => exact absurd e m1_3
        | 1, 4, _, _, e => exact absurd e m1_4
        | 1, 5, _, _, e => exact absurd e m1_5
        | 1, 6, _, _, e => exact absurd e m1_6
        | 1, 7, _, _, e => exact absurd e m1_7
        | 2, 0, _, _, e => exact absurd e.symm m0_2
        | 2, 1, _, _, e => exact absurd e.symm m1_2
        | 2, 2, _, _, _ => exact rfl
        | 2, 3, _, _, e => exact absurd e m2_3
        | 2, 4, _, _, e => exact absurd e m2_4
        | 2, 5, _, _, e => exact absurd e m2_5
        | 2, 6, _, _, e => exact absurd e m2_6
        | 2, 7, _, _, e => exact absurd e m2_7
        | 3, 0, _, _, e => exact absurd e.symm m0_3
        | 3, 1, _, _, e => exact absurd e.symm m1_3
        | 3, 2, _, _, e => exact absurd e.symm m2_3
        | 3, 3, _, _, _ => exact rfl
        | 3, 4, _, _, e => exact absurd e m3_4
        | 3, 5, _, _, e => exact absurd e m3_5
        | 3, 6, _, _, e => exact absurd e m3_6
        | 3, 7, _, _, e => exact absurd e m3_7
        | 4, 0, _, _, e => exact absurd e.symm m0_4
        | 4, 1, _, _, e => exact absurd e.symm m1_4
        | 4, 2, _, _, e => exact absurd e.symm m2_4
        | 4, 3, _, _, e => exact absurd e.symm m3_4
        | 4, 4, _, _, _ => exact rfl
        | 4, 5, _, _, e => exact absurd e m4_5
        | 4, 6, _, _, e => exact absurd e m4_6
        | 4, 7, _, _, e => exact absurd e m4_7
        | 5, 0, _, _, e => exact absurd e.symm m0_5
        | 5, 1, _, _, e => exact absurd e.symm m1_5
        | 5, 2, _, _, e => exact absurd e.symm m2_5
        | 5, 3, _, _, e => exact absurd e.symm m3_5
        | 5, 4, _, _, e => exact absurd e.symm m4_5
        | 5, 5, _, _, _ => exact rfl
        | 5, 6, _, _, e => exact absurd e m5_6
        | 5, 7, _, _, e => exact absurd e m5_7
        | 6, 0, _, _, e => exact absurd e.symm m0_6
        | 6, 1, _, _, e => exact absurd e.symm m1_6
        | 6, 2, _, _, e => exact absurd e.symm m2_6
        | 6, 3, _, _, e => exact absurd e.symm m3_6
        | 6, 4, _, _, e => exact absurd e.symm m4_6
        | 6, 5, _, _, e => exact absurd e.symm m5_6
        | 6, 6, _, _, _ => exact rfl
        | 6, 7, _, _, e => exact absurd e m6_7
        | 7, 0, _, _, e => exact absurd e.symm m0_7
        | 7, 1, _, _, e => exact absurd e.symm m1_7
        | 7, 2, _, _, e => exact absurd e.symm m2_7
        | 7, 3, _, _, e => exact absurd e.symm m3_7
        | 7, 4, _, _, e => exact absurd e.symm m4_7
        | 7, 5, _, _, e => exact absurd e.symm m5_7
        | 7, 6, _, _, e => exact absurd e.symm m6_7
        | 7, 7, _, _, _ => exact rfl
      · match j, hj with
        | 0, _ => exact n0
        | 1, _ => exact n1
        | 2, _ => exact n2
        | 3, _ => exact n3
        | 4, _ => exact n4
        | 5, _ => exact n5
        | 6, _ => exact n6
        | 7, _ => exact n7
      · rw [x3 b (hj 0 (by decide))]
        exact F7 b hb (hj 0 (by decide)) (hj 1 (by decide)) (hj 2 (by decide)) (hj 3 (by decide)) (hj 4 (by decide)) (hj 5 (by decide)) (hj 6 (by decide)) (hj 7 (by decide))
    | succ d ih =>
      intro j hx g ej x1 x2 x3
      iterate 3 (refine hP _ _ _ _ _ _ ?_; conv => whnf)
      refine br_f (nI_ge (b := 8) (by omega) (by decide)) ?_
      (refine hP _ _ _ _ _ _ ?_; conv => whnf)
      (refine hP _ _ _ _ _ _ ?_; conv => whnf)
      refine ac_get ((x3 mm (fun z => n0 z.symm)).trans a7) ?_
      (conv => whnf)
      iterate 2 (refine hP _ _ _ _ _ _ ?_; conv => whnf)
      (refine hP _ _ _ _ _ _ ?_; conv => whnf)
      refine ⟨_, _, x1, vp_in_nI (show j < 8 by omega) (by decide), ?_⟩
      rw [nI_clamp (by omega)]
      have ih2 := ih (j + 1) (ac_hs hx q0 (.inr (0, 8, .inl (upd g j (-1))))) _ (by omega) ac_hsE (fun e => ?_) (fun b hb => (ac_hsN hb).trans (x3 b hb))
      · rw [← nI_1] at ih2
        iterate 2 (refine hP _ _ _ _ _ _ ?_; conv => whnf)
        exact ih2
      · show upd g j (-1) e = _
        by_cases c : e = j
        · subst c
          rw [updE, if_pos (by omega)]
        · rw [updN c, x2 e]
          by_cases c2 : e < j
          · rw [if_pos c2, if_pos (by omega)]
          · rw [if_neg c2, if_neg (by omega)]
  exact L 8 0 X7 (fun _ => 0) (by omega) y0_7 (fun e => (if_neg (by omega)).symm) (fun b hb => rfl)
