/-! ===== the reference's small methods ===== -/
def m_lv : Option Nat → Int64
  | none => -1
  | some i => lN i
def m_dl (x : Int64) : Option Nat := if x.toInt < 0 then none else some x.toInt.toNat
/-- a number that names an item, or none -/
def m_lk (S : m_S) (x : Int64) : Prop := x = m_lv (m_dl x) ∧ ∀ j, m_dl x = some j → j < m_mk S
def m_wi (S : m_S) (i : Nat) : Prop :=
  m_kd S i ≤ 11 ∧ m_ln S i ≤ 24 ∧ m_dp S i ≤ 6 ∧ m_gr S i < m_mk S ∧ m_kd S (m_gr S i) ≤ 10 ∧
  (m_kd S i = 9 → m_ln S i ≤ 6 ∧ m_wd S i ≤ 4) ∧
  (m_kd S i = 8 → ∀ e, e < 24 → m_lk S (m_st S (24 * i + e))) ∧
  (m_kd S i = 10 → m_lk S (m_st S (24 * i + 1)) ∧ ∀ j, m_dl (m_st S (24 * i + 1)) = some j → m_kd S j = 10) ∧
  (m_kd S i ≠ 11 → m_gr S i = i ∧ m_dp S i = 0 ∧ m_sh S i = 0) ∧
  (m_kd S i = 11 → m_bs S i < m_mk S ∧ m_kd S (m_bs S i) ≠ 9 ∧ m_kd S (m_bs S i) ≠ 10 ∧ m_gr S i = m_gr S (m_bs S i) ∧ m_dp S i = m_dp S (m_bs S i) + 1 ∧ m_sh S i = m_sh S (m_bs S i) + m_of S i ∧ m_kd S (m_gr S i) ≤ 8)
def m_wf (S : m_S) : Prop := m_mk S ≤ 512 ∧ (∀ r i, r < 8 → m_rg S r = some i → i < m_mk S) ∧ ∀ i, i < m_mk S → m_wi S i
abbrev m_bad (i : Int32) (z : Nat) : Prop := i < 0 ∨ nI z ≤ i
theorem m_badN {i : Int32} {z : Nat} (hz : z < 2 ^ 31) (h : ¬ m_bad i z) : ∃ k, k < z ∧ i = nI k := by
  obtain ⟨j, hj, rfl⟩ := nI_of (fun q => h (Or.inl q))
  refine ⟨j, ?_, rfl⟩
  have : ¬ z ≤ j := fun q => h (Or.inr ((nI_leI hz hj).mpr q))
  omega
theorem m_badG {z k : Nat} (hz : z < 2 ^ 31) (h : k < z) : ¬ m_bad (nI k) z := fun q => q.elim (nI_pos (by omega)) (fun q => nI_ge h hz q)
theorem nI_predL {L : Nat} {p : Int32} (hL : L < 2 ^ 31) : nI L - 1 < p ↔ nI L ≤ p := by
  cases L with
  | zero =>
    have h1 : (nI 0 - 1).toInt = -1 := by decide
    have h2 : (nI 0).toInt = 0 := by decide
    rw [Int32.lt_iff_toInt_lt, Int32.le_iff_toInt_le, h1, h2]
    omega
  | succ k =>
    rw [nI_pred, Int32.lt_iff_toInt_lt, Int32.le_iff_toInt_le, nI_toInt (by omega), nI_toInt hL]
    omega
theorem m_bad7 {x : Int32} : (x < 0 ∨ 7 < x) ↔ m_bad x 8 := by
  unfold m_bad
  have h7 : (7 : Int32).toInt = 7 := by decide
  have h8 : (nI 8).toInt = 8 := by decide
  have h0 : (0 : Int32).toInt = 0 := by decide
  rw [Int32.lt_iff_toInt_lt, Int32.lt_iff_toInt_lt, Int32.le_iff_toInt_le, h7, h8, h0]
  omega
theorem m_badL {x : Int32} {L : Nat} (hL : L < 2 ^ 31) : (x < 0 ∨ nI L - 1 < x) ↔ m_bad x L := by
  unfold m_bad
  rw [nI_predL hL]
theorem nI_ne {a b : Nat} (h : a ≠ b) (ha : a < 2 ^ 31) (hb : b < 2 ^ 31) : ¬ nI a = nI b := fun z => h ((nI_eq ha hb).mp z)
theorem m_lv32 (o : Option Nat) : (m_lv o).toInt32 = m_rv o := by
  cases o with
  | none => rfl
  | some j => exact lN_i j
theorem m_rv64 {o : Option Nat} (h : ∀ j, o = some j → j < 512) : (m_rv o).toInt64 = m_lv o := by
  cases o with
  | none => rfl
  | some j =>
    have := h j rfl
    exact nI_l (by omega)
theorem m_dlv {o : Option Nat} (h : ∀ j, o = some j → j < 512) : m_dl (m_lv o) = o := by
  cases o with
  | none => rfl
  | some j =>
    have h1 := h j rfl
    have h2 : (lN j).toInt = (j : Int) := lN_toInt (by omega)
    unfold m_dl m_lv
    simp only []
    rw [h2, if_neg (by omega)]
    rfl
theorem ac_get {h : ac_H} {a ci f : Nat} {fs : List Value} {K : Value → Prop} (e : h a = some (.inl (ci, fs))) (q : ac_gf fs f K) : ∃ fs' : List Value, h a = some (.inl (ci, fs')) ∧ ac_gf fs' f K := ⟨fs, e, q⟩
section REF
variable {h : ac_H} {mm : Nat} {ar : Nat → Nat} {S : m_S} {ve el co : Int32} {Q : ac_Q}
theorem r_in {v a b : Int32} (h1 : (v < a ∨ b < v) → Q (.inl (some (.int 0))) h) (h2 : ¬ (v < a ∨ b < v) → Q (.inl (some (.int 1))) h) : T_X6_in [.int v, .int a, .int b] h Q := by
  (intro P hP; conv => whnf)
  repeat (refine hP _ _ _ _ _ _ ?_; conv => whnf)
  refine ⟨fun q => ?_, fun q => ?_⟩
  · repeat (refine hP _ _ _ _ _ _ ?_; conv => whnf)
    exact ⟨rfl, Or.inl rfl, h1 (Or.inl q), by decide, by decide⟩
  · repeat (refine hP _ _ _ _ _ _ ?_; conv => whnf)
    refine ⟨fun q2 => ?_, fun q2 => ?_⟩
    · repeat (refine hP _ _ _ _ _ _ ?_; conv => whnf)
      exact ⟨rfl, Or.inl rfl, h1 (Or.inr q2), by decide, by decide⟩
    · repeat (refine hP _ _ _ _ _ _ ?_; conv => whnf)
      exact ⟨rfl, Or.inr rfl, h2 (fun z => z.elim q q2), by decide, by decide⟩
theorem r_good0 (M : m_md h mm ar S ve el co) {c : Int32} (h1 : ∀ h', m_md h' mm ar S ve el c → m_fr mm ar h h' → Q (.inl (some (.int 0))) h') : T_X6_good [.ref mm, .int 0, .int c] h Q := by
  (intro P hP; conv => whnf)
  repeat (first | (refine hP _ _ _ _ _ _ ?_; conv => whnf) | (refine ⟨fun q => absurd q (by decide), fun _ => ?_⟩) | (refine ⟨fun _ => ?_, fun q => absurd (by decide) q⟩) | (refine ac_get M.1 ?_; conv => whnf) | (refine ⟨_, M.1, Nat.le_of_ble_eq_true rfl, Nat.le_of_ble_eq_true rfl, Nat.le_of_ble_eq_true rfl, ?_⟩) | (refine ⟨Nat.le_of_ble_eq_true rfl, Nat.le_of_ble_eq_true rfl, Nat.le_of_ble_eq_true rfl, ?_⟩))
  refine md_wco M (fun h M F => ?_)
  repeat (first | (refine hP _ _ _ _ _ _ ?_; conv => whnf) | (refine ⟨fun q => absurd q (by decide), fun _ => ?_⟩) | (refine ⟨fun _ => ?_, fun q => absurd (by decide) q⟩) | (refine ac_get M.1 ?_; conv => whnf) | (refine ⟨_, M.1, Nat.le_of_ble_eq_true rfl, Nat.le_of_ble_eq_true rfl, Nat.le_of_ble_eq_true rfl, ?_⟩) | (refine ⟨Nat.le_of_ble_eq_true rfl, Nat.le_of_ble_eq_true rfl, Nat.le_of_ble_eq_true rfl, ?_⟩))
  exact ⟨rfl, Or.inl rfl, h1 _ M F, by decide, by decide⟩
theorem r_good1 (M : m_md h mm ar S ve el co) {c : Int32} (h1 : ∀ h', m_md h' mm ar S ve el 0 → m_fr mm ar h h' → Q (.inl (some (.int 1))) h') : T_X6_good [.ref mm, .int 1, .int c] h Q := by
  (intro P hP; conv => whnf)
  repeat (first | (refine hP _ _ _ _ _ _ ?_; conv => whnf) | (refine ⟨fun q => absurd q (by decide), fun _ => ?_⟩) | (refine ⟨fun _ => ?_, fun q => absurd (by decide) q⟩) | (refine ac_get M.1 ?_; conv => whnf) | (refine ⟨_, M.1, Nat.le_of_ble_eq_true rfl, Nat.le_of_ble_eq_true rfl, Nat.le_of_ble_eq_true rfl, ?_⟩) | (refine ⟨Nat.le_of_ble_eq_true rfl, Nat.le_of_ble_eq_true rfl, Nat.le_of_ble_eq_true rfl, ?_⟩))
  refine md_wco M (fun h M F => ?_)
  repeat (first | (refine hP _ _ _ _ _ _ ?_; conv => whnf) | (refine ⟨fun q => absurd q (by decide), fun _ => ?_⟩) | (refine ⟨fun _ => ?_, fun q => absurd (by decide) q⟩) | (refine ac_get M.1 ?_; conv => whnf) | (refine ⟨_, M.1, Nat.le_of_ble_eq_true rfl, Nat.le_of_ble_eq_true rfl, Nat.le_of_ble_eq_true rfl, ?_⟩) | (refine ⟨Nat.le_of_ble_eq_true rfl, Nat.le_of_ble_eq_true rfl, Nat.le_of_ble_eq_true rfl, ?_⟩))
  exact ⟨rfl, Or.inr rfl, h1 _ M F, by decide, by decide⟩
theorem r_thrown (M : m_md h mm ar S ve el co) (h1 : Q (.inl (some (.int co))) h) : T_X6_thrown [.ref mm] h Q := by
  (intro P hP; conv => whnf)
  repeat (first | (refine hP _ _ _ _ _ _ ?_; conv => whnf) | (refine ⟨fun q => absurd q (by decide), fun _ => ?_⟩) | (refine ⟨fun _ => ?_, fun q => absurd (by decide) q⟩) | (refine ac_get M.1 ?_; conv => whnf) | (refine ⟨_, M.1, Nat.le_of_ble_eq_true rfl, Nat.le_of_ble_eq_true rfl, Nat.le_of_ble_eq_true rfl, ?_⟩) | (refine ⟨Nat.le_of_ble_eq_true rfl, Nat.le_of_ble_eq_true rfl, Nat.le_of_ble_eq_true rfl, ?_⟩))
  exact ⟨rfl, h1, by decide, by decide⟩
theorem r_known (M : m_md h mm ar S ve el co) {x y : Int32} (h1 : (m_bad x 8 ∨ m_bad y 8) → ∀ h', m_md h' mm ar S ve el 1 → m_fr mm ar h h' → Q (.inl (some (.int 0))) h') (h2 : ¬ (m_bad x 8 ∨ m_bad y 8) → ∀ h', m_md h' mm ar S ve el 0 → m_fr mm ar h h' → Q (.inl (some (.int 1))) h') : T_X6_known [.ref mm, .int x, .int y] h Q := by
  (intro P hP; conv => whnf)
  repeat (first | (refine hP _ _ _ _ _ _ ?_; conv => whnf) | (refine ⟨fun q => absurd q (by decide), fun _ => ?_⟩) | (refine ⟨fun _ => ?_, fun q => absurd (by decide) q⟩) | (refine ac_get M.1 ?_; conv => whnf) | (refine ⟨_, M.1, Nat.le_of_ble_eq_true rfl, Nat.le_of_ble_eq_true rfl, Nat.le_of_ble_eq_true rfl, ?_⟩) | (refine ⟨Nat.le_of_ble_eq_true rfl, Nat.le_of_ble_eq_true rfl, Nat.le_of_ble_eq_true rfl, ?_⟩))
  refine r_in (fun q => ?_) (fun q => ?_)
  · repeat (first | (refine hP _ _ _ _ _ _ ?_; conv => whnf) | (refine ⟨fun q => absurd q (by decide), fun _ => ?_⟩) | (refine ⟨fun _ => ?_, fun q => absurd (by decide) q⟩) | (refine ac_get M.1 ?_; conv => whnf) | (refine ⟨_, M.1, Nat.le_of_ble_eq_true rfl, Nat.le_of_ble_eq_true rfl, Nat.le_of_ble_eq_true rfl, ?_⟩) | (refine ⟨Nat.le_of_ble_eq_true rfl, Nat.le_of_ble_eq_true rfl, Nat.le_of_ble_eq_true rfl, ?_⟩))
    refine r_good0 M (fun h M F => ?_)
    repeat (first | (refine hP _ _ _ _ _ _ ?_; conv => whnf) | (refine ⟨fun q => absurd q (by decide), fun _ => ?_⟩) | (refine ⟨fun _ => ?_, fun q => absurd (by decide) q⟩) | (refine ac_get M.1 ?_; conv => whnf) | (refine ⟨_, M.1, Nat.le_of_ble_eq_true rfl, Nat.le_of_ble_eq_true rfl, Nat.le_of_ble_eq_true rfl, ?_⟩) | (refine ⟨Nat.le_of_ble_eq_true rfl, Nat.le_of_ble_eq_true rfl, Nat.le_of_ble_eq_true rfl, ?_⟩))
    exact ⟨rfl, Or.inl rfl, h1 (Or.inl (m_bad7.mp q)) _ M F, by decide, by decide⟩
  · repeat (first | (refine hP _ _ _ _ _ _ ?_; conv => whnf) | (refine ⟨fun q => absurd q (by decide), fun _ => ?_⟩) | (refine ⟨fun _ => ?_, fun q => absurd (by decide) q⟩) | (refine ac_get M.1 ?_; conv => whnf) | (refine ⟨_, M.1, Nat.le_of_ble_eq_true rfl, Nat.le_of_ble_eq_true rfl, Nat.le_of_ble_eq_true rfl, ?_⟩) | (refine ⟨Nat.le_of_ble_eq_true rfl, Nat.le_of_ble_eq_true rfl, Nat.le_of_ble_eq_true rfl, ?_⟩))
    refine r_in (fun q2 => ?_) (fun q2 => ?_)
    · repeat (first | (refine hP _ _ _ _ _ _ ?_; conv => whnf) | (refine ⟨fun q => absurd q (by decide), fun _ => ?_⟩) | (refine ⟨fun _ => ?_, fun q => absurd (by decide) q⟩) | (refine ac_get M.1 ?_; conv => whnf) | (refine ⟨_, M.1, Nat.le_of_ble_eq_true rfl, Nat.le_of_ble_eq_true rfl, Nat.le_of_ble_eq_true rfl, ?_⟩) | (refine ⟨Nat.le_of_ble_eq_true rfl, Nat.le_of_ble_eq_true rfl, Nat.le_of_ble_eq_true rfl, ?_⟩))
      refine r_good0 M (fun h M F => ?_)
      repeat (first | (refine hP _ _ _ _ _ _ ?_; conv => whnf) | (refine ⟨fun q => absurd q (by decide), fun _ => ?_⟩) | (refine ⟨fun _ => ?_, fun q => absurd (by decide) q⟩) | (refine ac_get M.1 ?_; conv => whnf) | (refine ⟨_, M.1, Nat.le_of_ble_eq_true rfl, Nat.le_of_ble_eq_true rfl, Nat.le_of_ble_eq_true rfl, ?_⟩) | (refine ⟨Nat.le_of_ble_eq_true rfl, Nat.le_of_ble_eq_true rfl, Nat.le_of_ble_eq_true rfl, ?_⟩))
      exact ⟨rfl, Or.inl rfl, h1 (Or.inr (m_bad7.mp q2)) _ M F, by decide, by decide⟩
    · repeat (first | (refine hP _ _ _ _ _ _ ?_; conv => whnf) | (refine ⟨fun q => absurd q (by decide), fun _ => ?_⟩) | (refine ⟨fun _ => ?_, fun q => absurd (by decide) q⟩) | (refine ac_get M.1 ?_; conv => whnf) | (refine ⟨_, M.1, Nat.le_of_ble_eq_true rfl, Nat.le_of_ble_eq_true rfl, Nat.le_of_ble_eq_true rfl, ?_⟩) | (refine ⟨Nat.le_of_ble_eq_true rfl, Nat.le_of_ble_eq_true rfl, Nat.le_of_ble_eq_true rfl, ?_⟩))
      refine r_good1 M (fun h M F => ?_)
      repeat (first | (refine hP _ _ _ _ _ _ ?_; conv => whnf) | (refine ⟨fun q => absurd q (by decide), fun _ => ?_⟩) | (refine ⟨fun _ => ?_, fun q => absurd (by decide) q⟩) | (refine ac_get M.1 ?_; conv => whnf) | (refine ⟨_, M.1, Nat.le_of_ble_eq_true rfl, Nat.le_of_ble_eq_true rfl, Nat.le_of_ble_eq_true rfl, ?_⟩) | (refine ⟨Nat.le_of_ble_eq_true rfl, Nat.le_of_ble_eq_true rfl, Nat.le_of_ble_eq_true rfl, ?_⟩))
      exact ⟨rfl, Or.inr rfl, h2 (fun z => z.elim (fun z => q (m_bad7.mpr z)) (fun z => q2 (m_bad7.mpr z))) _ M F, by decide, by decide⟩
theorem r_bottom (M : m_md h mm ar S ve el co) (W : m_wf S) {i : Nat} (hi : i < m_mk S) (h1 : Q (.inl (some (.int (nI (m_gr S i))))) h) : T_X6_bottom [.ref mm, .int (nI i)] h Q := by
  (intro P hP; conv => whnf)
  iterate 2 (refine hP _ _ _ _ _ _ ?_; conv => whnf)
  have L : ∀ d i, i < m_mk S → m_dp S i = d → Q (.inl (some (.int (nI (m_gr S i))))) h → ∀ x0, P 2 [some (.ref mm), some (.int x0), some (.int (nI i))] [] h 0 0 := by
    intro d
    induction d with
    | zero =>
      intro i hi hd hq v
      obtain ⟨w1, w2, w3, w4, w5, w6, w7, w8, w9, w10⟩ := W.2.2 i hi
      have hk : m_kd S i ≠ 11 := fun z => by have := (w10 z).2.2.2.2.1; omega
      repeat (first | (refine hP _ _ _ _ _ _ ?_; conv => whnf) | (refine ⟨fun q => absurd q (by decide), fun _ => ?_⟩) | (refine ⟨fun _ => ?_, fun q => absurd (by decide) q⟩) | (refine ac_get M.1 ?_; conv => whnf) | (refine ⟨_, M.1, Nat.le_of_ble_eq_true rfl, Nat.le_of_ble_eq_true rfl, Nat.le_of_ble_eq_true rfl, ?_⟩) | (refine ⟨Nat.le_of_ble_eq_true rfl, Nat.le_of_ble_eq_true rfl, Nat.le_of_ble_eq_true rfl, ?_⟩))
      refine md_kd M rfl (Nat.lt_of_lt_of_le hi (Nat.le_trans W.1 (by decide))) ?_
      repeat (first | (refine hP _ _ _ _ _ _ ?_; conv => whnf) | (refine ⟨fun q => absurd q (by decide), fun _ => ?_⟩) | (refine ⟨fun _ => ?_, fun q => absurd (by decide) q⟩) | (refine ac_get M.1 ?_; conv => whnf) | (refine ⟨_, M.1, Nat.le_of_ble_eq_true rfl, Nat.le_of_ble_eq_true rfl, Nat.le_of_ble_eq_true rfl, ?_⟩) | (refine ⟨Nat.le_of_ble_eq_true rfl, Nat.le_of_ble_eq_true rfl, Nat.le_of_ble_eq_true rfl, ?_⟩))
      refine br_t (nI_ne (b := 11) hk (by omega) (by decide)) ?_
      repeat (first | (refine hP _ _ _ _ _ _ ?_; conv => whnf) | (refine ⟨fun q => absurd q (by decide), fun _ => ?_⟩) | (refine ⟨fun _ => ?_, fun q => absurd (by decide) q⟩) | (refine ac_get M.1 ?_; conv => whnf) | (refine ⟨_, M.1, Nat.le_of_ble_eq_true rfl, Nat.le_of_ble_eq_true rfl, Nat.le_of_ble_eq_true rfl, ?_⟩) | (refine ⟨Nat.le_of_ble_eq_true rfl, Nat.le_of_ble_eq_true rfl, Nat.le_of_ble_eq_true rfl, ?_⟩))
      rw [(w9 hk).1] at hq
      exact ⟨rfl, hq, by decide, by decide⟩
    | succ d ih =>
      intro i hi hd hq v
      obtain ⟨w1, w2, w3, w4, w5, w6, w7, w8, w9, w10⟩ := W.2.2 i hi
      have hk : m_kd S i = 11 := Classical.byContradiction (fun z => by have := (w9 z).2.1; omega)
      have hi5 : i < 520 := Nat.lt_of_lt_of_le hi (Nat.le_trans W.1 (by decide))
      obtain ⟨b1, b2, b3, b4, b5, b6⟩ := w10 hk
      repeat (first | (refine hP _ _ _ _ _ _ ?_; conv => whnf) | (refine ⟨fun q => absurd q (by decide), fun _ => ?_⟩) | (refine ⟨fun _ => ?_, fun q => absurd (by decide) q⟩) | (refine ac_get M.1 ?_; conv => whnf) | (refine ⟨_, M.1, Nat.le_of_ble_eq_true rfl, Nat.le_of_ble_eq_true rfl, Nat.le_of_ble_eq_true rfl, ?_⟩) | (refine ⟨Nat.le_of_ble_eq_true rfl, Nat.le_of_ble_eq_true rfl, Nat.le_of_ble_eq_true rfl, ?_⟩))
      refine md_kd M rfl hi5 ?_
      rw [hk]
      repeat (first | (refine hP _ _ _ _ _ _ ?_; conv => whnf) | (refine ⟨fun q => absurd q (by decide), fun _ => ?_⟩) | (refine ⟨fun _ => ?_, fun q => absurd (by decide) q⟩) | (refine ac_get M.1 ?_; conv => whnf) | (refine ⟨_, M.1, Nat.le_of_ble_eq_true rfl, Nat.le_of_ble_eq_true rfl, Nat.le_of_ble_eq_true rfl, ?_⟩) | (refine ⟨Nat.le_of_ble_eq_true rfl, Nat.le_of_ble_eq_true rfl, Nat.le_of_ble_eq_true rfl, ?_⟩))
      refine md_bs M rfl hi5 ?_
      iterate 2 (refine hP _ _ _ _ _ _ ?_; conv => whnf)
      exact ih _ b1 (by omega) (by rw [← b4]; exact hq) v
  exact L _ i hi rfl h1 _
end REF
