/-! ===== what the small methods do ===== -/
theorem ac_koN {hh : List (Nat × Nat × Nat × Nat)} {pc nx : Nat} {P : ac_P} {Q : ac_Q} {lv : ac_V} {r : List Value} {k n : Nat} {h : ac_H} (a : P nx lv r h k n) : ac_ko hh pc nx P Q lv r k n (.inl none) h := a
theorem ac_koV {hh : List (Nat × Nat × Nat × Nat)} {pc nx : Nat} {P : ac_P} {Q : ac_Q} {lv : ac_V} {r : List Value} {k n : Nat} {h : ac_H} {v : Value} (a : P nx lv (v :: r) h k n) : ac_ko hh pc nx P Q lv r k n (.inl (some v)) h := a
theorem ac_koX {pc nx : Nat} {P : ac_P} {Q : ac_Q} {lv : ac_V} {r : List Value} {k n x : Nat} {h : ac_H} (hx : x < 7) (a : Q (.inr x) h) : ac_ko [] pc nx P Q lv r k n (.inr x) h := ⟨hx, a⟩
theorem i32_nlt {x y : Int32} (h : ¬ x < y) : y ≤ x := by rw [Int32.le_iff_toInt_le]; rw [Int32.lt_iff_toInt_lt] at h; omega
theorem i32_nle {x y : Int32} (h : ¬ x ≤ y) : y < x := by rw [Int32.lt_iff_toInt_lt]; rw [Int32.le_iff_toInt_le] at h; omega
theorem i32_lt_nle {x y : Int32} (h : x < y) : ¬ y ≤ x := by rw [Int32.le_iff_toInt_le]; rw [Int32.lt_iff_toInt_lt] at h; omega
theorem sp_requireArgument {b : Int32} {h : ac_H} {Q : ac_Q} (h1 : ¬ b = 0 → Q (.inl none) h) (h2 : b = 0 → Q (.inr 0) h) : T_X5_requireArgument [.int b] h Q := by
  (intro P hP; conv => whnf)
  repeat (refine hP _ _ _ _ _ _ ?_; conv => whnf)
  refine ⟨fun q => ?_, fun q => ?_⟩
  · repeat (refine hP _ _ _ _ _ _ ?_; conv => whnf)
    exact ⟨rfl, h1 q, by decide, by decide⟩
  · repeat (refine hP _ _ _ _ _ _ ?_; conv => whnf)
    exact ⟨h2 (Classical.byContradiction q), by decide, by decide, rfl⟩
theorem sp_requireSupported {b : Int32} {h : ac_H} {Q : ac_Q} (h1 : ¬ b = 0 → Q (.inl none) h) (h2 : b = 0 → Q (.inr 2) h) : T_X5_requireSupported [.int b] h Q := by
  (intro P hP; conv => whnf)
  repeat (refine hP _ _ _ _ _ _ ?_; conv => whnf)
  refine ⟨fun q => ?_, fun q => ?_⟩
  · repeat (refine hP _ _ _ _ _ _ ?_; conv => whnf)
    exact ⟨rfl, h1 q, by decide, by decide⟩
  · repeat (refine hP _ _ _ _ _ _ ?_; conv => whnf)
    exact ⟨h2 (Classical.byContradiction q), by decide, by decide, rfl⟩
theorem sp_requirePresent {b : Int32} {h : ac_H} {Q : ac_Q} (h1 : ¬ b = 0 → Q (.inl none) h) (h2 : b = 0 → Q (.inr 1) h) : T_X5_requirePresent [.int b] h Q := by
  (intro P hP; conv => whnf)
  repeat (refine hP _ _ _ _ _ _ ?_; conv => whnf)
  refine ⟨fun q => ?_, fun q => ?_⟩
  · repeat (refine hP _ _ _ _ _ _ ?_; conv => whnf)
    exact ⟨rfl, h1 q, by decide, by decide⟩
  · repeat (refine hP _ _ _ _ _ _ ?_; conv => whnf)
    exact ⟨rfl, h2 (Classical.byContradiction q), by decide, by decide⟩
theorem lg_cmp0 {x y : Int64} : lg_cmp x y = 0 ↔ x = y := by
  unfold lg_cmp
  simp only [gt_iff_lt, Int64.lt_iff_toInt_lt, ← Int64.toInt_inj]
  repeat' split
  · exact ⟨fun z => absurd z (by decide), fun z => by omega⟩
  · rename_i h; exact ⟨fun _ => h, fun _ => rfl⟩
  · rename_i h; exact ⟨fun z => absurd z (by decide), fun z => absurd z h⟩
theorem sp_requireDivisor {d : Int64} {h : ac_H} {Q : ac_Q} (h1 : ¬ d = 0 → Q (.inl none) h) (h2 : d = 0 → Q (.inr 6) h) : T_X5_requireDivisor [.long d] h Q := by
  (intro P hP; conv => whnf)
  repeat (refine hP _ _ _ _ _ _ ?_; conv => whnf)
  refine ⟨fun q => ?_, fun q => ?_⟩
  · repeat (refine hP _ _ _ _ _ _ ?_; conv => whnf)
    exact ⟨rfl, h1 (fun z => q (lg_cmp0.mpr z)), by decide, by decide⟩
  · repeat (refine hP _ _ _ _ _ _ ?_; conv => whnf)
    exact ⟨h2 (lg_cmp0.mp (Classical.byContradiction q)), by decide, by decide, rfl⟩
theorem sp_requireRegister {r : Int32} {h : ac_H} {Q : ac_Q} (h1 : ¬ r < 0 → r < 8 → Q (.inl none) h) (h2 : (r < 0 ∨ 8 ≤ r) → Q (.inr 0) h) : T_X5_requireRegister [.int r] h Q := by
  (intro P hP; conv => whnf)
  repeat (refine hP _ _ _ _ _ _ ?_; conv => whnf)
  refine ⟨fun q => ?_, fun q => ?_⟩
  · repeat (refine hP _ _ _ _ _ _ ?_; conv => whnf)
    refine ⟨Nat.le_of_ble_eq_true rfl, Nat.le_of_ble_eq_true rfl, Nat.le_of_ble_eq_true rfl, ?_⟩
    exact sp_requireArgument (fun z => absurd rfl z) (fun _ => ac_koX (by decide) (h2 (Or.inl q)))
  · repeat (refine hP _ _ _ _ _ _ ?_; conv => whnf)
    refine ⟨fun q2 => ?_, fun q2 => ?_⟩
    · repeat (refine hP _ _ _ _ _ _ ?_; conv => whnf)
      refine ⟨Nat.le_of_ble_eq_true rfl, Nat.le_of_ble_eq_true rfl, Nat.le_of_ble_eq_true rfl, ?_⟩
      exact sp_requireArgument (fun z => absurd rfl z) (fun _ => ac_koX (by decide) (h2 (Or.inr q2)))
    · repeat (refine hP _ _ _ _ _ _ ?_; conv => whnf)
      refine ⟨Nat.le_of_ble_eq_true rfl, Nat.le_of_ble_eq_true rfl, Nat.le_of_ble_eq_true rfl, ?_⟩
      refine sp_requireArgument (fun _ => ?_) (fun z => absurd z (by decide))
      refine ac_koN ?_
      repeat (refine hP _ _ _ _ _ _ ?_; conv => whnf)
      exact ⟨rfl, h1 q (i32_nle q2), by decide, by decide⟩
theorem sp_requireIndex {i n : Int32} {h : ac_H} {Q : ac_Q} (h1 : ¬ i < 0 → i < n → Q (.inl none) h) (h2 : (i < 0 ∨ n ≤ i) → Q (.inr 3) h) : T_X5_requireIndex [.int i, .int n] h Q := by
  (intro P hP; conv => whnf)
  repeat (refine hP _ _ _ _ _ _ ?_; conv => whnf)
  refine ⟨fun q => ?_, fun q => ?_⟩
  · repeat (refine hP _ _ _ _ _ _ ?_; conv => whnf)
    exact ⟨rfl, h2 (Or.inl q), by decide, by decide⟩
  · repeat (refine hP _ _ _ _ _ _ ?_; conv => whnf)
    refine ⟨fun q2 => ?_, fun q2 => ?_⟩
    · repeat (refine hP _ _ _ _ _ _ ?_; conv => whnf)
      exact ⟨rfl, h1 q q2, by decide, by decide⟩
    · repeat (refine hP _ _ _ _ _ _ ?_; conv => whnf)
      exact ⟨rfl, h2 (Or.inr (i32_nlt q2)), by decide, by decide⟩
theorem sp_requireSize {n : Int32} {h : ac_H} {Q : ac_Q} (h1 : ¬ n < 0 → Q (.inl none) h) (h2 : n < 0 → Q (.inr 4) h) : T_X5_requireSize [.int n] h Q := by
  (intro P hP; conv => whnf)
  repeat (refine hP _ _ _ _ _ _ ?_; conv => whnf)
  refine ⟨fun q => ?_, fun q => ?_⟩
  · repeat (refine hP _ _ _ _ _ _ ?_; conv => whnf)
    exact ⟨rfl, h1 (fun z => i32_lt_nle z q), by decide, by decide⟩
  · repeat (refine hP _ _ _ _ _ _ ?_; conv => whnf)
    exact ⟨rfl, i32_nle q, h2 (i32_nle q), by decide, by decide⟩
-- the items' own methods
theorem sp_X1_init {a : Nat} {h : ac_H} {Q : ac_Q} (h1 : Q (.inl none) h) : T_X1_init [.ref a] h Q := by
  (intro P hP; conv => whnf)
  repeat (refine hP _ _ _ _ _ _ ?_; conv => whnf)
  refine ⟨by decide, ?_⟩
  repeat (refine hP _ _ _ _ _ _ ?_; conv => whnf)
  exact ⟨rfl, h1, by decide, by decide⟩
theorem sp_X0_sort {a : Nat} {h : ac_H} {Q : ac_Q} (h1 : Q (.inl (some (.int 9))) h) : T_X0_sort [.ref a] h Q := by
  (intro P hP; conv => whnf)
  repeat (refine hP _ _ _ _ _ _ ?_; conv => whnf)
  exact ⟨rfl, h1, by decide, by decide⟩
theorem sp_X2_sort {a : Nat} {h : ac_H} {Q : ac_Q} (h1 : Q (.inl (some (.int 10))) h) : T_X2_sort [.ref a] h Q := by
  (intro P hP; conv => whnf)
  repeat (refine hP _ _ _ _ _ _ ?_; conv => whnf)
  exact ⟨rfl, h1, by decide, by decide⟩
theorem sp_X1_ground {a : Nat} {h : ac_H} {Q : ac_Q} (h1 : Q (.inl (some .null)) h) : T_X1_ground [.ref a] h Q := by
  (intro P hP; conv => whnf)
  repeat (refine hP _ _ _ _ _ _ ?_; conv => whnf)
  exact ⟨rfl, h1, by decide, by decide⟩
theorem sp_X1_shift {a : Nat} {h : ac_H} {Q : ac_Q} (h1 : Q (.inl (some (.int 0))) h) : T_X1_shift [.ref a] h Q := by
  (intro P hP; conv => whnf)
  repeat (refine hP _ _ _ _ _ _ ?_; conv => whnf)
  exact ⟨rfl, h1, by decide, by decide⟩
theorem sp_X1_windows {a : Nat} {h : ac_H} {Q : ac_Q} (h1 : Q (.inl (some (.int 0))) h) : T_X1_windows [.ref a] h Q := by
  (intro P hP; conv => whnf)
  repeat (refine hP _ _ _ _ _ _ ?_; conv => whnf)
  exact ⟨rfl, h1, by decide, by decide⟩
theorem sp_X3_sort {a : Nat} {h : ac_H} {Q : ac_Q} {s : Int32} {v w : Value} (ha : h a = some (.inl (6, [.int s, v, w]))) (h1 : Q (.inl (some (.int s))) h) : T_X3_sort [.ref a] h Q := by
  (intro P hP; conv => whnf)
  repeat (first | (refine hP _ _ _ _ _ _ ?_; conv => whnf) | (refine ⟨fun q => absurd q (by decide), fun _ => ?_⟩) | (refine ⟨fun _ => ?_, fun q => absurd (by decide) q⟩) | (refine ⟨_, by assumption, ?_⟩; conv => whnf))
  exact ⟨rfl, h1, by decide, by decide⟩
theorem sp_X3_ground {a : Nat} {h : ac_H} {Q : ac_Q} (h1 : Q (.inl (some (.ref a))) h) : T_X3_ground [.ref a] h Q := by
  (intro P hP; conv => whnf)
  repeat (refine hP _ _ _ _ _ _ ?_; conv => whnf)
  exact ⟨rfl, h1, by decide, by decide⟩
theorem sp_X4_sort {a g : Nat} {h : ac_H} {Q : ac_Q} {s sh dp : Int32} {v w : Value} (ha : h a = some (.inl (7, [.ref g, .int sh, .int dp]))) (hg : h g = some (.inl (6, [.int s, v, w]))) (h1 : Q (.inl (some (.int s))) h) : T_X4_sort [.ref a] h Q := by
  (intro P hP; conv => whnf)
  repeat (first | (refine hP _ _ _ _ _ _ ?_; conv => whnf) | (refine ⟨fun q => absurd q (by decide), fun _ => ?_⟩) | (refine ⟨fun _ => ?_, fun q => absurd (by decide) q⟩) | (refine ⟨_, by assumption, ?_⟩; conv => whnf))
  exact ⟨rfl, h1, by decide, by decide⟩
theorem sp_X4_ground {a g : Nat} {h : ac_H} {Q : ac_Q} {sh dp : Int32} (ha : h a = some (.inl (7, [.ref g, .int sh, .int dp]))) (h1 : Q (.inl (some (.ref g))) h) : T_X4_ground [.ref a] h Q := by
  (intro P hP; conv => whnf)
  repeat (first | (refine hP _ _ _ _ _ _ ?_; conv => whnf) | (refine ⟨fun q => absurd q (by decide), fun _ => ?_⟩) | (refine ⟨fun _ => ?_, fun q => absurd (by decide) q⟩) | (refine ⟨_, by assumption, ?_⟩; conv => whnf))
  exact ⟨rfl, h1, by decide, by decide⟩
theorem sp_X4_shift {a g : Nat} {h : ac_H} {Q : ac_Q} {sh dp : Int32} (ha : h a = some (.inl (7, [.ref g, .int sh, .int dp]))) (h1 : Q (.inl (some (.int sh))) h) : T_X4_shift [.ref a] h Q := by
  (intro P hP; conv => whnf)
  repeat (first | (refine hP _ _ _ _ _ _ ?_; conv => whnf) | (refine ⟨fun q => absurd q (by decide), fun _ => ?_⟩) | (refine ⟨fun _ => ?_, fun q => absurd (by decide) q⟩) | (refine ⟨_, by assumption, ?_⟩; conv => whnf))
  exact ⟨rfl, h1, by decide, by decide⟩
theorem sp_X4_windows {a g : Nat} {h : ac_H} {Q : ac_Q} {sh dp : Int32} (ha : h a = some (.inl (7, [.ref g, .int sh, .int dp]))) (h1 : Q (.inl (some (.int dp))) h) : T_X4_windows [.ref a] h Q := by
  (intro P hP; conv => whnf)
  repeat (first | (refine hP _ _ _ _ _ _ ?_; conv => whnf) | (refine ⟨fun q => absurd q (by decide), fun _ => ?_⟩) | (refine ⟨fun _ => ?_, fun q => absurd (by decide) q⟩) | (refine ⟨_, by assumption, ?_⟩; conv => whnf))
  exact ⟨rfl, h1, by decide, by decide⟩
theorem sp_X3_isLost {a : Nat} {h : ac_H} {Q : ac_Q} {s : Int32} {vn vi : Option Nat} (ha : h a = some (.inl (6, [.int s, va_rf vn, va_rf vi]))) (h1 : vn = none → vi = none → Q (.inl (some (.int 1))) h) (h2 : (vn ≠ none ∨ vi ≠ none) → Q (.inl (some (.int 0))) h) : T_X3_isLost [.ref a] h Q := by
  cases vn with
  | none =>
    cases vi with
    | none =>
      (intro P hP; conv => whnf)
      repeat (first | (refine hP _ _ _ _ _ _ ?_; conv => whnf) | (refine ⟨fun q => absurd q (by decide), fun _ => ?_⟩) | (refine ⟨fun _ => ?_, fun q => absurd (by decide) q⟩) | (refine ⟨_, by assumption, ?_⟩; conv => whnf))
      exact ⟨rfl, Or.inr rfl, h1 rfl rfl, by decide, by decide⟩
    | some b =>
      (intro P hP; conv => whnf)
      repeat (first | (refine hP _ _ _ _ _ _ ?_; conv => whnf) | (refine ⟨fun q => absurd q (by decide), fun _ => ?_⟩) | (refine ⟨fun _ => ?_, fun q => absurd (by decide) q⟩) | (refine ⟨_, by assumption, ?_⟩; conv => whnf))
      exact ⟨rfl, Or.inl rfl, h2 (Or.inr (by simp)), by decide, by decide⟩
  | some b =>
    (intro P hP; conv => whnf)
    repeat (first | (refine hP _ _ _ _ _ _ ?_; conv => whnf) | (refine ⟨fun q => absurd q (by decide), fun _ => ?_⟩) | (refine ⟨fun _ => ?_, fun q => absurd (by decide) q⟩) | (refine ⟨_, by assumption, ?_⟩; conv => whnf))
    exact ⟨rfl, Or.inl rfl, h2 (Or.inl (by simp)), by decide, by decide⟩
theorem sp_X3_lengthN {a b z : Nat} {h : ac_H} {Q : ac_Q} {s : Int32} {w : Value} {f : Nat → Int64} (ha : h a = some (.inl (6, [.int s, .ref b, w]))) (hb : h b = some (.inr (2, z, .inr (.inl f)))) (h1 : Q (.inl (some (.int (nI z)))) h) : T_X3_length [.ref a] h Q := by
  (intro P hP; conv => whnf)
  repeat (first | (refine hP _ _ _ _ _ _ ?_; conv => whnf) | (refine ⟨fun q => absurd q (by decide), fun _ => ?_⟩) | (refine ⟨fun _ => ?_, fun q => absurd (by decide) q⟩) | (refine ⟨_, by assumption, ?_⟩; conv => whnf))
  refine ⟨_, _, hb, ?_⟩
  repeat (first | (refine hP _ _ _ _ _ _ ?_; conv => whnf) | (refine ⟨fun q => absurd q (by decide), fun _ => ?_⟩) | (refine ⟨fun _ => ?_, fun q => absurd (by decide) q⟩) | (refine ⟨_, by assumption, ?_⟩; conv => whnf))
  exact ⟨rfl, h1, by decide, by decide⟩
theorem sp_X3_lengthI {a b z : Nat} {h : ac_H} {Q : ac_Q} {s : Int32} {f : Nat → Option Nat} (ha : h a = some (.inl (6, [.int s, .null, .ref b]))) (hb : h b = some (.inr (3, z, .inr (.inr f)))) (h1 : Q (.inl (some (.int (nI z)))) h) : T_X3_length [.ref a] h Q := by
  (intro P hP; conv => whnf)
  repeat (first | (refine hP _ _ _ _ _ _ ?_; conv => whnf) | (refine ⟨fun q => absurd q (by decide), fun _ => ?_⟩) | (refine ⟨fun _ => ?_, fun q => absurd (by decide) q⟩) | (refine ⟨_, by assumption, ?_⟩; conv => whnf))
  refine ⟨_, _, hb, ?_⟩
  repeat (first | (refine hP _ _ _ _ _ _ ?_; conv => whnf) | (refine ⟨fun q => absurd q (by decide), fun _ => ?_⟩) | (refine ⟨fun _ => ?_, fun q => absurd (by decide) q⟩) | (refine ⟨_, by assumption, ?_⟩; conv => whnf))
  exact ⟨rfl, h1, by decide, by decide⟩
theorem sp_X3_drop {a : Nat} {h : ac_H} {Q : ac_Q} {s : Int32} {v w : Value} (ha : h a = some (.inl (6, [.int s, v, w]))) (h1 : ∀ h', h' a = some (.inl (6, [.int s, .null, .null])) → (∀ b, b ≠ a → h' b = h b) → Q (.inl none) h') : T_X3_dropStorage [.ref a] h Q := by
  (intro P hP; conv => whnf)
  repeat (first | (refine hP _ _ _ _ _ _ ?_; conv => whnf) | (refine ⟨fun q => absurd q (by decide), fun _ => ?_⟩) | (refine ⟨fun _ => ?_, fun q => absurd (by decide) q⟩) | (refine ⟨_, by assumption, ?_⟩; conv => whnf))
  refine ⟨_, if_pos rfl, ?_⟩
  (conv => whnf)
  repeat (refine hP _ _ _ _ _ _ ?_; conv => whnf)
  refine ⟨rfl, h1 _ (if_pos rfl) (fun b hb => ?_), by decide, by decide⟩
  show (if b = a then _ else if b = a then _ else _) = _
  rw [if_neg hb, if_neg hb]
