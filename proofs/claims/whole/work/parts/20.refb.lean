/-- where an element stands: the exception's number or 7, and the place -/
def m_pl (S : m_S) (i : Nat) (ix : Int32) : Nat × Nat := if m_lo S (6 * m_gr S i) = true then (1, 0) else if m_bad (m_sh S i + ix) (m_ln S (m_gr S i)) then (3, 0) else (7, (m_sh S i + ix).toNatClampNeg)
theorem m_pl3 {S : m_S} {i : Nat} {ix : Int32} : (m_pl S i ix).1 = 1 ∨ (m_pl S i ix).1 = 3 ∨ (m_pl S i ix).1 = 7 := by
  unfold m_pl
  split
  · exact Or.inl rfl
  · split
    · exact Or.inr (Or.inl rfl)
    · exact Or.inr (Or.inr rfl)
theorem m_pl7 {S : m_S} (W : m_wf S) {i : Nat} {ix : Int32} (hi : i < m_mk S) (q : (m_pl S i ix).1 = 7) : m_lo S (6 * m_gr S i) = false ∧ (m_pl S i ix).2 < m_ln S (m_gr S i) ∧ m_sh S i + ix = nI (m_pl S i ix).2 := by
  unfold m_pl at q ⊢
  split at q
  · exact absurd q (by decide)
  · rename_i q1
    split at q
    · exact absurd q (by decide)
    · rename_i q2
      rw [if_neg q1, if_neg q2]
      have h24 := (W.2.2 _ (W.2.2 i hi).2.2.2.1).2.1
      obtain ⟨k, hk, e⟩ := m_badN (by omega) q2
      refine ⟨by simpa using q1, ?_⟩
      show (m_sh S i + ix).toNatClampNeg < _ ∧ m_sh S i + ix = nI (m_sh S i + ix).toNatClampNeg
      rw [e, nI_clamp (by omega)]
      exact ⟨hk, rfl⟩
def m_fit : Nat → Int64 → Int64
  | 0, v => if v = 0 then 0 else 1
  | 1, v => v.toInt32.toInt8.toInt32.toInt64
  | 2, v => v.toInt32.toInt16.toInt32.toInt64
  | 3, v => v &&& 65535
  | 4, v => v.toInt32.toInt64
  | 6, v => FP.f2l (FP.l2f v)
  | 7, v => FP.d2l (FP.l2d v)
  | _, v => v
section REFB
variable {h : ac_H} {mm : Nat} {ar : Nat → Nat} {S : m_S} {ve el co : Int32} {Q : ac_Q}
theorem m_w5 (W : m_wf S) {i : Nat} (hi : i < m_mk S) : i < 520 := Nat.lt_of_lt_of_le hi (Nat.le_trans W.1 (by decide))
theorem m_wg (W : m_wf S) {i : Nat} (hi : i < m_mk S) : m_gr S i < m_mk S := (W.2.2 i hi).2.2.2.1
theorem r_sort (M : m_md h mm ar S ve el co) (W : m_wf S) {i : Nat} (hi : i < m_mk S) (h1 : Q (.inl (some (.int (nI (m_kd S (m_gr S i)))))) h) : T_X6_sort [.ref mm, .int (nI i)] h Q := by
  (intro P hP; conv => whnf)
  repeat (first | (refine hP _ _ _ _ _ _ ?_; conv => whnf) | (refine ⟨fun q => absurd q (by decide), fun _ => ?_⟩) | (refine ⟨fun _ => ?_, fun q => absurd (by decide) q⟩) | (refine ac_get M.1 ?_; conv => whnf) | (refine ⟨_, M.1, Nat.le_of_ble_eq_true rfl, Nat.le_of_ble_eq_true rfl, Nat.le_of_ble_eq_true rfl, ?_⟩) | (refine ⟨Nat.le_of_ble_eq_true rfl, Nat.le_of_ble_eq_true rfl, Nat.le_of_ble_eq_true rfl, ?_⟩))
  refine r_bottom M W hi ?_
  repeat (first | (refine hP _ _ _ _ _ _ ?_; conv => whnf) | (refine ⟨fun q => absurd q (by decide), fun _ => ?_⟩) | (refine ⟨fun _ => ?_, fun q => absurd (by decide) q⟩) | (refine ac_get M.1 ?_; conv => whnf) | (refine ⟨_, M.1, Nat.le_of_ble_eq_true rfl, Nat.le_of_ble_eq_true rfl, Nat.le_of_ble_eq_true rfl, ?_⟩) | (refine ⟨Nat.le_of_ble_eq_true rfl, Nat.le_of_ble_eq_true rfl, Nat.le_of_ble_eq_true rfl, ?_⟩))
  refine md_kd M rfl (m_w5 W (m_wg W hi)) ?_
  repeat (first | (refine hP _ _ _ _ _ _ ?_; conv => whnf) | (refine ⟨fun q => absurd q (by decide), fun _ => ?_⟩) | (refine ⟨fun _ => ?_, fun q => absurd (by decide) q⟩) | (refine ac_get M.1 ?_; conv => whnf) | (refine ⟨_, M.1, Nat.le_of_ble_eq_true rfl, Nat.le_of_ble_eq_true rfl, Nat.le_of_ble_eq_true rfl, ?_⟩) | (refine ⟨Nat.le_of_ble_eq_true rfl, Nat.le_of_ble_eq_true rfl, Nat.le_of_ble_eq_true rfl, ?_⟩))
  exact ⟨rfl, h1, by decide, by decide⟩
theorem r_windows (M : m_md h mm ar S ve el co) (W : m_wf S) {i : Nat} (hi : i < m_mk S) (h1 : Q (.inl (some (.int (nI (m_dp S i))))) h) : T_X6_windows [.ref mm, .int (nI i)] h Q := by
  (intro P hP; conv => whnf)
  iterate 4 (refine hP _ _ _ _ _ _ ?_; conv => whnf)
  have L : ∀ d i c, i < m_mk S → m_dp S i = d → Q (.inl (some (.int (nI (c + m_dp S i))))) h → ∀ x0, P 4 [some (.ref mm), some (.int x0), some (.int (nI c)), some (.int (nI i))] [] h 0 0 := by
    intro d
    induction d with
    | zero =>
      intro i c hi hd hq v
      obtain ⟨w1, w2, w3, w4, w5, w6, w7, w8, w9, w10⟩ := W.2.2 i hi
      have hk : m_kd S i ≠ 11 := fun z => by have := (w10 z).2.2.2.2.1; omega
      repeat (first | (refine hP _ _ _ _ _ _ ?_; conv => whnf) | (refine ⟨fun q => absurd q (by decide), fun _ => ?_⟩) | (refine ⟨fun _ => ?_, fun q => absurd (by decide) q⟩) | (refine ac_get M.1 ?_; conv => whnf) | (refine ⟨_, M.1, Nat.le_of_ble_eq_true rfl, Nat.le_of_ble_eq_true rfl, Nat.le_of_ble_eq_true rfl, ?_⟩) | (refine ⟨Nat.le_of_ble_eq_true rfl, Nat.le_of_ble_eq_true rfl, Nat.le_of_ble_eq_true rfl, ?_⟩))
      refine md_kd M rfl (m_w5 W hi) ?_
      repeat (first | (refine hP _ _ _ _ _ _ ?_; conv => whnf) | (refine ⟨fun q => absurd q (by decide), fun _ => ?_⟩) | (refine ⟨fun _ => ?_, fun q => absurd (by decide) q⟩) | (refine ac_get M.1 ?_; conv => whnf) | (refine ⟨_, M.1, Nat.le_of_ble_eq_true rfl, Nat.le_of_ble_eq_true rfl, Nat.le_of_ble_eq_true rfl, ?_⟩) | (refine ⟨Nat.le_of_ble_eq_true rfl, Nat.le_of_ble_eq_true rfl, Nat.le_of_ble_eq_true rfl, ?_⟩))
      refine br_t (nI_ne (b := 11) hk (by omega) (by decide)) ?_
      repeat (first | (refine hP _ _ _ _ _ _ ?_; conv => whnf) | (refine ⟨fun q => absurd q (by decide), fun _ => ?_⟩) | (refine ⟨fun _ => ?_, fun q => absurd (by decide) q⟩) | (refine ac_get M.1 ?_; conv => whnf) | (refine ⟨_, M.1, Nat.le_of_ble_eq_true rfl, Nat.le_of_ble_eq_true rfl, Nat.le_of_ble_eq_true rfl, ?_⟩) | (refine ⟨Nat.le_of_ble_eq_true rfl, Nat.le_of_ble_eq_true rfl, Nat.le_of_ble_eq_true rfl, ?_⟩))
      rw [hd] at hq
      exact ⟨rfl, hq, by decide, by decide⟩
    | succ d ih =>
      intro i c hi hd hq v
      obtain ⟨w1, w2, w3, w4, w5, w6, w7, w8, w9, w10⟩ := W.2.2 i hi
      have hk : m_kd S i = 11 := Classical.byContradiction (fun z => by have := (w9 z).2.1; omega)
      obtain ⟨b1, b2, b3, b4, b5, b6⟩ := w10 hk
      repeat (first | (refine hP _ _ _ _ _ _ ?_; conv => whnf) | (refine ⟨fun q => absurd q (by decide), fun _ => ?_⟩) | (refine ⟨fun _ => ?_, fun q => absurd (by decide) q⟩) | (refine ac_get M.1 ?_; conv => whnf) | (refine ⟨_, M.1, Nat.le_of_ble_eq_true rfl, Nat.le_of_ble_eq_true rfl, Nat.le_of_ble_eq_true rfl, ?_⟩) | (refine ⟨Nat.le_of_ble_eq_true rfl, Nat.le_of_ble_eq_true rfl, Nat.le_of_ble_eq_true rfl, ?_⟩))
      refine md_kd M rfl (m_w5 W hi) ?_
      rw [hk]
      repeat (first | (refine hP _ _ _ _ _ _ ?_; conv => whnf) | (refine ⟨fun q => absurd q (by decide), fun _ => ?_⟩) | (refine ⟨fun _ => ?_, fun q => absurd (by decide) q⟩) | (refine ac_get M.1 ?_; conv => whnf) | (refine ⟨_, M.1, Nat.le_of_ble_eq_true rfl, Nat.le_of_ble_eq_true rfl, Nat.le_of_ble_eq_true rfl, ?_⟩) | (refine ⟨Nat.le_of_ble_eq_true rfl, Nat.le_of_ble_eq_true rfl, Nat.le_of_ble_eq_true rfl, ?_⟩))
      refine md_bs M rfl (m_w5 W hi) ?_
      rw [nI_1]
      iterate 2 (refine hP _ _ _ _ _ _ ?_; conv => whnf)
      exact ih _ _ b1 (by omega) (by rw [b5] at hq; rw [show c + 1 + m_dp S (m_bs S i) = c + (m_dp S (m_bs S i) + 1) by omega]; exact hq) v
  exact L _ i 0 hi rfl (by rw [Nat.zero_add]; exact h1) _
theorem m_ct0 {S : m_S} {i : Nat} {ix : Int32} {F : Nat → Prop} (h1 : m_lo S (6 * m_gr S i) = true → F 1) (h2 : m_lo S (6 * m_gr S i) = false → m_bad (m_sh S i + ix) (m_ln S (m_gr S i)) → F 3) (h3 : m_lo S (6 * m_gr S i) = false → ¬ m_bad (m_sh S i + ix) (m_ln S (m_gr S i)) → F 7) : F (m_pl S i ix).1 := by
  unfold m_pl
  split
  · rename_i q
    exact h1 q
  · rename_i q
    split
    · rename_i q2
      exact h2 (by simpa using q) q2
    · rename_i q2
      exact h3 (by simpa using q) q2
theorem r_find (M : m_md h mm ar S ve el co) (W : m_wf S) {i : Nat} (hi : i < m_mk S) {ix : Int32} (h1 : ∀ h', m_md h' mm ar S (nI (m_gr S i)) (m_sh S i + ix) co → m_fr mm ar h h' → Q (.inl (some (.int (m_ct 0 (m_pl S i ix).1)))) h') : T_X6_find [.ref mm, .int (nI i), .int ix] h Q := by
  (intro P hP; conv => whnf)
  repeat (first | (refine hP _ _ _ _ _ _ ?_; conv => whnf) | (refine ⟨fun q => absurd q (by decide), fun _ => ?_⟩) | (refine ⟨fun _ => ?_, fun q => absurd (by decide) q⟩) | (refine ac_get M.1 ?_; conv => whnf) | (refine ⟨_, M.1, Nat.le_of_ble_eq_true rfl, Nat.le_of_ble_eq_true rfl, Nat.le_of_ble_eq_true rfl, ?_⟩) | (refine ⟨Nat.le_of_ble_eq_true rfl, Nat.le_of_ble_eq_true rfl, Nat.le_of_ble_eq_true rfl, ?_⟩))
  refine md_wel M (fun ha M F => ?_)
  have L : ∀ d i e h, i < m_mk S → m_dp S i = d → m_md h mm ar S ve e co → (∀ h', m_md h' mm ar S ve (e + m_sh S i) co → m_fr mm ar h h' → ∀ x0, P 43 [some (.ref mm), some (.int x0), some (.int ix), some (.int (nI (m_gr S i)))] [] h' 0 0) → ∀ x0, P 7 [some (.ref mm), some (.int x0), some (.int ix), some (.int (nI i))] [] h 0 0 := by
    intro d
    induction d with
    | zero =>
      intro i e h hi hd M hq x0
      obtain ⟨w1, w2, w3, w4, w5, w6, w7, w8, w9, w10⟩ := W.2.2 i hi
      have hk : m_kd S i ≠ 11 := fun z => by have := (w10 z).2.2.2.2.1; omega
      repeat (first | (refine hP _ _ _ _ _ _ ?_; conv => whnf) | (refine ⟨fun q => absurd q (by decide), fun _ => ?_⟩) | (refine ⟨fun _ => ?_, fun q => absurd (by decide) q⟩) | (refine ac_get M.1 ?_; conv => whnf) | (refine ⟨_, M.1, Nat.le_of_ble_eq_true rfl, Nat.le_of_ble_eq_true rfl, Nat.le_of_ble_eq_true rfl, ?_⟩) | (refine ⟨Nat.le_of_ble_eq_true rfl, Nat.le_of_ble_eq_true rfl, Nat.le_of_ble_eq_true rfl, ?_⟩))
      refine md_kd M rfl (m_w5 W hi) ?_
      iterate 2 (refine hP _ _ _ _ _ _ ?_; conv => whnf)
      refine br_t (nI_ne (b := 11) hk (by omega) (by decide)) ?_
      rw [(w9 hk).1, (w9 hk).2.2, Int32.add_zero] at hq
      exact hq _ M m_fr0 x0
    | succ d ih =>
      intro i e h hi hd M hq x0
      obtain ⟨w1, w2, w3, w4, w5, w6, w7, w8, w9, w10⟩ := W.2.2 i hi
      have hk : m_kd S i = 11 := Classical.byContradiction (fun z => by have := (w9 z).2.1; omega)
      obtain ⟨b1, b2, b3, b4, b5, b6, b7⟩ := w10 hk
      repeat (first | (refine hP _ _ _ _ _ _ ?_; conv => whnf) | (refine ⟨fun q => absurd q (by decide), fun _ => ?_⟩) | (refine ⟨fun _ => ?_, fun q => absurd (by decide) q⟩) | (refine ac_get M.1 ?_; conv => whnf) | (refine ⟨_, M.1, Nat.le_of_ble_eq_true rfl, Nat.le_of_ble_eq_true rfl, Nat.le_of_ble_eq_true rfl, ?_⟩) | (refine ⟨Nat.le_of_ble_eq_true rfl, Nat.le_of_ble_eq_true rfl, Nat.le_of_ble_eq_true rfl, ?_⟩))
      refine md_kd M rfl (m_w5 W hi) ?_
      rw [hk]
      repeat (first | (refine hP _ _ _ _ _ _ ?_; conv => whnf) | (refine ⟨fun q => absurd q (by decide), fun _ => ?_⟩) | (refine ⟨fun _ => ?_, fun q => absurd (by decide) q⟩) | (refine ac_get M.1 ?_; conv => whnf) | (refine ⟨_, M.1, Nat.le_of_ble_eq_true rfl, Nat.le_of_ble_eq_true rfl, Nat.le_of_ble_eq_true rfl, ?_⟩) | (refine ⟨Nat.le_of_ble_eq_true rfl, Nat.le_of_ble_eq_true rfl, Nat.le_of_ble_eq_true rfl, ?_⟩))
      refine md_of M rfl (m_w5 W hi) ?_
      repeat (first | (refine hP _ _ _ _ _ _ ?_; conv => whnf) | (refine ⟨fun q => absurd q (by decide), fun _ => ?_⟩) | (refine ⟨fun _ => ?_, fun q => absurd (by decide) q⟩) | (refine ac_get M.1 ?_; conv => whnf) | (refine ⟨_, M.1, Nat.le_of_ble_eq_true rfl, Nat.le_of_ble_eq_true rfl, Nat.le_of_ble_eq_true rfl, ?_⟩) | (refine ⟨Nat.le_of_ble_eq_true rfl, Nat.le_of_ble_eq_true rfl, Nat.le_of_ble_eq_true rfl, ?_⟩))
      refine md_wel M (fun h2 M F => ?_)
      repeat (first | (refine hP _ _ _ _ _ _ ?_; conv => whnf) | (refine ⟨fun q => absurd q (by decide), fun _ => ?_⟩) | (refine ⟨fun _ => ?_, fun q => absurd (by decide) q⟩) | (refine ac_get M.1 ?_; conv => whnf) | (refine ⟨_, M.1, Nat.le_of_ble_eq_true rfl, Nat.le_of_ble_eq_true rfl, Nat.le_of_ble_eq_true rfl, ?_⟩) | (refine ⟨Nat.le_of_ble_eq_true rfl, Nat.le_of_ble_eq_true rfl, Nat.le_of_ble_eq_true rfl, ?_⟩))
      refine md_bs M rfl (m_w5 W hi) ?_
      iterate 2 (refine hP _ _ _ _ _ _ ?_; conv => whnf)
      refine ih _ _ _ b1 (by omega) M (fun h3 M F3 => ?_) x0
      rw [b4, b6] at hq
      rw [Int32.add_assoc, Int32.add_comm (m_of S i)] at M
      exact hq _ M (m_frT F F3)
  refine L _ i _ _ hi rfl M (fun h2 M F2 x0 => ?_) _
  repeat (first | (refine hP _ _ _ _ _ _ ?_; conv => whnf) | (refine ⟨fun q => absurd q (by decide), fun _ => ?_⟩) | (refine ⟨fun _ => ?_, fun q => absurd (by decide) q⟩) | (refine ac_get M.1 ?_; conv => whnf) | (refine ⟨_, M.1, Nat.le_of_ble_eq_true rfl, Nat.le_of_ble_eq_true rfl, Nat.le_of_ble_eq_true rfl, ?_⟩) | (refine ⟨Nat.le_of_ble_eq_true rfl, Nat.le_of_ble_eq_true rfl, Nat.le_of_ble_eq_true rfl, ?_⟩))
  refine md_wve M (fun h3 M F3 => ?_)
  repeat (first | (refine hP _ _ _ _ _ _ ?_; conv => whnf) | (refine ⟨fun q => absurd q (by decide), fun _ => ?_⟩) | (refine ⟨fun _ => ?_, fun q => absurd (by decide) q⟩) | (refine ac_get M.1 ?_; conv => whnf) | (refine ⟨_, M.1, Nat.le_of_ble_eq_true rfl, Nat.le_of_ble_eq_true rfl, Nat.le_of_ble_eq_true rfl, ?_⟩) | (refine ⟨Nat.le_of_ble_eq_true rfl, Nat.le_of_ble_eq_true rfl, Nat.le_of_ble_eq_true rfl, ?_⟩))
  have hg := m_w5 W (m_wg W hi)
  refine md_lo M (nI_mul 6 _) (by omega) ?_
  rw [Int32.add_comm ix] at M
  have hF := m_frT F (m_frT F2 F3)
  have h2 := h1 _ M hF
  revert h2
  refine m_ct0 (F := fun x => Q (.inl (some (.int (m_ct 0 x)))) h3 → _) (fun q h2 => ?_) (fun q q2 h2 => ?_) (fun q q2 h2 => ?_)
  · rw [q]
    repeat (first | (refine hP _ _ _ _ _ _ ?_; conv => whnf) | (refine ⟨fun q => absurd q (by decide), fun _ => ?_⟩) | (refine ⟨fun _ => ?_, fun q => absurd (by decide) q⟩) | (refine ac_get M.1 ?_; conv => whnf) | (refine ⟨_, M.1, Nat.le_of_ble_eq_true rfl, Nat.le_of_ble_eq_true rfl, Nat.le_of_ble_eq_true rfl, ?_⟩) | (refine ⟨Nat.le_of_ble_eq_true rfl, Nat.le_of_ble_eq_true rfl, Nat.le_of_ble_eq_true rfl, ?_⟩))
    exact ⟨rfl, h2, by decide, by decide⟩
  · rw [q]
    repeat (first | (refine hP _ _ _ _ _ _ ?_; conv => whnf) | (refine ⟨fun q => absurd q (by decide), fun _ => ?_⟩) | (refine ⟨fun _ => ?_, fun q => absurd (by decide) q⟩) | (refine ac_get M.1 ?_; conv => whnf) | (refine ⟨_, M.1, Nat.le_of_ble_eq_true rfl, Nat.le_of_ble_eq_true rfl, Nat.le_of_ble_eq_true rfl, ?_⟩) | (refine ⟨Nat.le_of_ble_eq_true rfl, Nat.le_of_ble_eq_true rfl, Nat.le_of_ble_eq_true rfl, ?_⟩))
    refine md_ln M rfl hg ?_
    repeat (first | (refine hP _ _ _ _ _ _ ?_; conv => whnf) | (refine ⟨fun q => absurd q (by decide), fun _ => ?_⟩) | (refine ⟨fun _ => ?_, fun q => absurd (by decide) q⟩) | (refine ac_get M.1 ?_; conv => whnf) | (refine ⟨_, M.1, Nat.le_of_ble_eq_true rfl, Nat.le_of_ble_eq_true rfl, Nat.le_of_ble_eq_true rfl, ?_⟩) | (refine ⟨Nat.le_of_ble_eq_true rfl, Nat.le_of_ble_eq_true rfl, Nat.le_of_ble_eq_true rfl, ?_⟩))
    refine r_in (fun q3 => ?_) (fun q3 => absurd q2 (fun z => q3 ((m_badL ?_).mpr z)))
    · repeat (first | (refine hP _ _ _ _ _ _ ?_; conv => whnf) | (refine ⟨fun q => absurd q (by decide), fun _ => ?_⟩) | (refine ⟨fun _ => ?_, fun q => absurd (by decide) q⟩) | (refine ac_get M.1 ?_; conv => whnf) | (refine ⟨_, M.1, Nat.le_of_ble_eq_true rfl, Nat.le_of_ble_eq_true rfl, Nat.le_of_ble_eq_true rfl, ?_⟩) | (refine ⟨Nat.le_of_ble_eq_true rfl, Nat.le_of_ble_eq_true rfl, Nat.le_of_ble_eq_true rfl, ?_⟩))
      exact ⟨rfl, h2, by decide, by decide⟩
    · have := (W.2.2 _ (m_wg W hi)).2.1
      omega
  · rw [q]
    repeat (first | (refine hP _ _ _ _ _ _ ?_; conv => whnf) | (refine ⟨fun q => absurd q (by decide), fun _ => ?_⟩) | (refine ⟨fun _ => ?_, fun q => absurd (by decide) q⟩) | (refine ac_get M.1 ?_; conv => whnf) | (refine ⟨_, M.1, Nat.le_of_ble_eq_true rfl, Nat.le_of_ble_eq_true rfl, Nat.le_of_ble_eq_true rfl, ?_⟩) | (refine ⟨Nat.le_of_ble_eq_true rfl, Nat.le_of_ble_eq_true rfl, Nat.le_of_ble_eq_true rfl, ?_⟩))
    refine md_ln M rfl hg ?_
    repeat (first | (refine hP _ _ _ _ _ _ ?_; conv => whnf) | (refine ⟨fun q => absurd q (by decide), fun _ => ?_⟩) | (refine ⟨fun _ => ?_, fun q => absurd (by decide) q⟩) | (refine ac_get M.1 ?_; conv => whnf) | (refine ⟨_, M.1, Nat.le_of_ble_eq_true rfl, Nat.le_of_ble_eq_true rfl, Nat.le_of_ble_eq_true rfl, ?_⟩) | (refine ⟨Nat.le_of_ble_eq_true rfl, Nat.le_of_ble_eq_true rfl, Nat.le_of_ble_eq_true rfl, ?_⟩))
    refine r_in (fun q3 => absurd ((m_badL ?_).mp q3) q2) (fun q3 => ?_)
    · have := (W.2.2 _ (m_wg W hi)).2.1
      omega
    · repeat (first | (refine hP _ _ _ _ _ _ ?_; conv => whnf) | (refine ⟨fun q => absurd q (by decide), fun _ => ?_⟩) | (refine ⟨fun _ => ?_, fun q => absurd (by decide) q⟩) | (refine ac_get M.1 ?_; conv => whnf) | (refine ⟨_, M.1, Nat.le_of_ble_eq_true rfl, Nat.le_of_ble_eq_true rfl, Nat.le_of_ble_eq_true rfl, ?_⟩) | (refine ⟨Nat.le_of_ble_eq_true rfl, Nat.le_of_ble_eq_true rfl, Nat.le_of_ble_eq_true rfl, ?_⟩))
      exact ⟨rfl, h2, by decide, by decide⟩
theorem r_fit {s : Nat} {v : Int64} (hs : s ≤ 7) (h1 : Q (.inl (some (.long (m_fit s v)))) h) : T_X6_fit [.int (nI s), .long v] h Q := by
  match s, hs with
  | 0, _ =>
    (intro P hP; conv => whnf)
    repeat (first | (refine hP _ _ _ _ _ _ ?_; conv => whnf) | (refine ⟨fun q => absurd q (by decide), fun _ => ?_⟩) | (refine ⟨fun _ => ?_, fun q => absurd (by decide) q⟩) | (refine ⟨_, by assumption, ?_⟩; conv => whnf))
    refine ⟨fun q => ?_, fun q => ?_⟩
    · repeat (first | (refine hP _ _ _ _ _ _ ?_; conv => whnf) | (refine ⟨fun q => absurd q (by decide), fun _ => ?_⟩) | (refine ⟨fun _ => ?_, fun q => absurd (by decide) q⟩) | (refine ⟨_, by assumption, ?_⟩; conv => whnf))
      have e : m_fit 0 v = 1 := if_neg (fun z => q (lg_cmp0.mpr z))
      rw [e] at h1
      exact ⟨rfl, h1, by decide, by decide⟩
    · repeat (first | (refine hP _ _ _ _ _ _ ?_; conv => whnf) | (refine ⟨fun q => absurd q (by decide), fun _ => ?_⟩) | (refine ⟨fun _ => ?_, fun q => absurd (by decide) q⟩) | (refine ⟨_, by assumption, ?_⟩; conv => whnf))
      have e : m_fit 0 v = 0 := if_pos (lg_cmp0.mp (Classical.byContradiction q))
      rw [e] at h1
      exact ⟨rfl, h1, by decide, by decide⟩
  | 1, _ =>
    (intro P hP; conv => whnf)
    repeat (first | (refine hP _ _ _ _ _ _ ?_; conv => whnf) | (refine ⟨fun q => absurd q (by decide), fun _ => ?_⟩) | (refine ⟨fun _ => ?_, fun q => absurd (by decide) q⟩) | (refine ⟨_, by assumption, ?_⟩; conv => whnf))
    exact ⟨rfl, h1, by decide, by decide⟩
  | 2, _ =>
    (intro P hP; conv => whnf)
    repeat (first | (refine hP _ _ _ _ _ _ ?_; conv => whnf) | (refine ⟨fun q => absurd q (by decide), fun _ => ?_⟩) | (refine ⟨fun _ => ?_, fun q => absurd (by decide) q⟩) | (refine ⟨_, by assumption, ?_⟩; conv => whnf))
    exact ⟨rfl, h1, by decide, by decide⟩
  | 3, _ =>
    (intro P hP; conv => whnf)
    repeat (first | (refine hP _ _ _ _ _ _ ?_; conv => whnf) | (refine ⟨fun q => absurd q (by decide), fun _ => ?_⟩) | (refine ⟨fun _ => ?_, fun q => absurd (by decide) q⟩) | (refine ⟨_, by assumption, ?_⟩; conv => whnf))
    exact ⟨rfl, h1, by decide, by decide⟩
  | 4, _ =>
    (intro P hP; conv => whnf)
    repeat (first | (refine hP _ _ _ _ _ _ ?_; conv => whnf) | (refine ⟨fun q => absurd q (by decide), fun _ => ?_⟩) | (refine ⟨fun _ => ?_, fun q => absurd (by decide) q⟩) | (refine ⟨_, by assumption, ?_⟩; conv => whnf))
    exact ⟨rfl, h1, by decide, by decide⟩
  | 5, _ =>
    (intro P hP; conv => whnf)
    repeat (first | (refine hP _ _ _ _ _ _ ?_; conv => whnf) | (refine ⟨fun q => absurd q (by decide), fun _ => ?_⟩) | (refine ⟨fun _ => ?_, fun q => absurd (by decide) q⟩) | (refine ⟨_, by assumption, ?_⟩; conv => whnf))
    exact ⟨rfl, h1, by decide, by decide⟩
  | 6, _ =>
    (intro P hP; conv => whnf)
    repeat (first | (refine hP _ _ _ _ _ _ ?_; conv => whnf) | (refine ⟨fun q => absurd q (by decide), fun _ => ?_⟩) | (refine ⟨fun _ => ?_, fun q => absurd (by decide) q⟩) | (refine ⟨_, by assumption, ?_⟩; conv => whnf))
    exact ⟨rfl, h1, by decide, by decide⟩
  | 7, _ =>
    (intro P hP; conv => whnf)
    repeat (first | (refine hP _ _ _ _ _ _ ?_; conv => whnf) | (refine ⟨fun q => absurd q (by decide), fun _ => ?_⟩) | (refine ⟨fun _ => ?_, fun q => absurd (by decide) q⟩) | (refine ⟨_, by assumption, ?_⟩; conv => whnf))
    exact ⟨rfl, h1, by decide, by decide⟩
theorem nI_24 (g e : Nat) : (24 : Int32) * nI g + nI e = nI (24 * g + e) := by
  rw [show (24 : Int32) = nI 24 from rfl, nI_mul, nI_add]
theorem r_here {g e : Nat} (M : m_md h mm ar S (nI g) (nI e) co) (hg : g < 520) (he : e < 24) (h1 : Q (.inl (some (.long (m_st S (24 * g + e))))) h) : T_X6_here [.ref mm] h Q := by
  (intro P hP; conv => whnf)
  repeat (first | (refine hP _ _ _ _ _ _ ?_; conv => whnf) | (refine ⟨fun q => absurd q (by decide), fun _ => ?_⟩) | (refine ⟨fun _ => ?_, fun q => absurd (by decide) q⟩) | (refine ac_get M.1 ?_; conv => whnf) | (refine ⟨_, M.1, Nat.le_of_ble_eq_true rfl, Nat.le_of_ble_eq_true rfl, Nat.le_of_ble_eq_true rfl, ?_⟩) | (refine ⟨Nat.le_of_ble_eq_true rfl, Nat.le_of_ble_eq_true rfl, Nat.le_of_ble_eq_true rfl, ?_⟩))
  refine md_st M (nI_24 g e) (by omega) ?_
  repeat (first | (refine hP _ _ _ _ _ _ ?_; conv => whnf) | (refine ⟨fun q => absurd q (by decide), fun _ => ?_⟩) | (refine ⟨fun _ => ?_, fun q => absurd (by decide) q⟩) | (refine ac_get M.1 ?_; conv => whnf) | (refine ⟨_, M.1, Nat.le_of_ble_eq_true rfl, Nat.le_of_ble_eq_true rfl, Nat.le_of_ble_eq_true rfl, ?_⟩) | (refine ⟨Nat.le_of_ble_eq_true rfl, Nat.le_of_ble_eq_true rfl, Nat.le_of_ble_eq_true rfl, ?_⟩))
  exact ⟨rfl, h1, by decide, by decide⟩
theorem r_set {g e : Nat} {v : Int64} (M : m_md h mm ar S (nI g) (nI e) co) (hg : g < 520) (he : e < 24) (hs : m_kd S g ≤ 7) (h1 : ∀ h', m_md h' mm ar (m_sst S (24 * g + e) (m_fit (m_kd S g) v)) (nI g) (nI e) co → m_fr mm ar h h' → Q (.inl (some (.long (m_fit (m_kd S g) v)))) h') : T_X6_set [.ref mm, .long v] h Q := by
  (intro P hP; conv => whnf)
  repeat (first | (refine hP _ _ _ _ _ _ ?_; conv => whnf) | (refine ⟨fun q => absurd q (by decide), fun _ => ?_⟩) | (refine ⟨fun _ => ?_, fun q => absurd (by decide) q⟩) | (refine ac_get M.1 ?_; conv => whnf) | (refine ⟨_, M.1, Nat.le_of_ble_eq_true rfl, Nat.le_of_ble_eq_true rfl, Nat.le_of_ble_eq_true rfl, ?_⟩) | (refine ⟨Nat.le_of_ble_eq_true rfl, Nat.le_of_ble_eq_true rfl, Nat.le_of_ble_eq_true rfl, ?_⟩))
  refine md_kd M rfl hg ?_
  repeat (first | (refine hP _ _ _ _ _ _ ?_; conv => whnf) | (refine ⟨fun q => absurd q (by decide), fun _ => ?_⟩) | (refine ⟨fun _ => ?_, fun q => absurd (by decide) q⟩) | (refine ac_get M.1 ?_; conv => whnf) | (refine ⟨_, M.1, Nat.le_of_ble_eq_true rfl, Nat.le_of_ble_eq_true rfl, Nat.le_of_ble_eq_true rfl, ?_⟩) | (refine ⟨Nat.le_of_ble_eq_true rfl, Nat.le_of_ble_eq_true rfl, Nat.le_of_ble_eq_true rfl, ?_⟩))
  refine r_fit hs ?_
  repeat (first | (refine hP _ _ _ _ _ _ ?_; conv => whnf) | (refine ⟨fun q => absurd q (by decide), fun _ => ?_⟩) | (refine ⟨fun _ => ?_, fun q => absurd (by decide) q⟩) | (refine ac_get M.1 ?_; conv => whnf) | (refine ⟨_, M.1, Nat.le_of_ble_eq_true rfl, Nat.le_of_ble_eq_true rfl, Nat.le_of_ble_eq_true rfl, ?_⟩) | (refine ⟨Nat.le_of_ble_eq_true rfl, Nat.le_of_ble_eq_true rfl, Nat.le_of_ble_eq_true rfl, ?_⟩))
  refine md_wst M (nI_24 g e) (by omega) rfl (fun h2 M F => ?_)
  repeat (first | (refine hP _ _ _ _ _ _ ?_; conv => whnf) | (refine ⟨fun q => absurd q (by decide), fun _ => ?_⟩) | (refine ⟨fun _ => ?_, fun q => absurd (by decide) q⟩) | (refine ac_get M.1 ?_; conv => whnf) | (refine ⟨_, M.1, Nat.le_of_ble_eq_true rfl, Nat.le_of_ble_eq_true rfl, Nat.le_of_ble_eq_true rfl, ?_⟩) | (refine ⟨Nat.le_of_ble_eq_true rfl, Nat.le_of_ble_eq_true rfl, Nat.le_of_ble_eq_true rfl, ?_⟩))
  refine r_here M hg he ?_
  repeat (first | (refine hP _ _ _ _ _ _ ?_; conv => whnf) | (refine ⟨fun q => absurd q (by decide), fun _ => ?_⟩) | (refine ⟨fun _ => ?_, fun q => absurd (by decide) q⟩) | (refine ac_get M.1 ?_; conv => whnf) | (refine ⟨_, M.1, Nat.le_of_ble_eq_true rfl, Nat.le_of_ble_eq_true rfl, Nat.le_of_ble_eq_true rfl, ?_⟩) | (refine ⟨Nat.le_of_ble_eq_true rfl, Nat.le_of_ble_eq_true rfl, Nat.le_of_ble_eq_true rfl, ?_⟩))
  have e2 : m_st (m_sst S (24 * g + e) (m_fit (m_kd S g) v)) (24 * g + e) = m_fit (m_kd S g) v := vp_updE
  rw [e2]
  exact ⟨rfl, h1 _ M F, by decide, by decide⟩
theorem m_rvS {i : Nat} (hi : i < 520) : ¬ m_rv (some i) < 0 := nI_pos (by omega)
theorem r_reach (M : m_md h mm ar S ve el co) (W : m_wf S) {k b : Nat} (hk : k < 8) (hb : b < 2 ^ 31) {ix : Int32} (h1 : m_rg S k = none → ∀ h' ve el, m_md h' mm ar S ve el 2 → m_fr mm ar h h' → Q (.inl (some (.int 0))) h')
    (h2 : ∀ i, m_rg S k = some i → b < m_kd S (m_gr S i) → ∀ h' ve el, m_md h' mm ar S ve el 3 → m_fr mm ar h h' → Q (.inl (some (.int 0))) h')
    (h3 : ∀ i, m_rg S k = some i → ¬ b < m_kd S (m_gr S i) → (m_pl S i ix).1 ≠ 7 → ∀ h' ve el, m_md h' mm ar S ve el (m_ct 0 (m_pl S i ix).1) → m_fr mm ar h h' → Q (.inl (some (.int 0))) h')
    (h4 : ∀ i, m_rg S k = some i → ¬ b < m_kd S (m_gr S i) → (m_pl S i ix).1 = 7 → ∀ h', m_md h' mm ar S (nI (m_gr S i)) (m_sh S i + ix) 0 → m_fr mm ar h h' → Q (.inl (some (.int 1))) h') : T_X6_reach [.ref mm, .int (nI k), .int ix, .int (nI b)] h Q := by
  (intro P hP; conv => whnf)
  repeat (first | (refine hP _ _ _ _ _ _ ?_; conv => whnf) | (refine ⟨fun q => absurd q (by decide), fun _ => ?_⟩) | (refine ⟨fun _ => ?_, fun q => absurd (by decide) q⟩) | (refine ac_get M.1 ?_; conv => whnf) | (refine ⟨_, M.1, Nat.le_of_ble_eq_true rfl, Nat.le_of_ble_eq_true rfl, Nat.le_of_ble_eq_true rfl, ?_⟩) | (refine ⟨Nat.le_of_ble_eq_true rfl, Nat.le_of_ble_eq_true rfl, Nat.le_of_ble_eq_true rfl, ?_⟩))
  refine md_rg M rfl hk ?_
  cases e : m_rg S k with
  | none =>
    repeat (first | (refine hP _ _ _ _ _ _ ?_; conv => whnf) | (refine ⟨fun q => absurd q (by decide), fun _ => ?_⟩) | (refine ⟨fun _ => ?_, fun q => absurd (by decide) q⟩) | (refine ac_get M.1 ?_; conv => whnf) | (refine ⟨_, M.1, Nat.le_of_ble_eq_true rfl, Nat.le_of_ble_eq_true rfl, Nat.le_of_ble_eq_true rfl, ?_⟩) | (refine ⟨Nat.le_of_ble_eq_true rfl, Nat.le_of_ble_eq_true rfl, Nat.le_of_ble_eq_true rfl, ?_⟩))
    refine r_good0 M (fun h' M F => ?_)
    repeat (first | (refine hP _ _ _ _ _ _ ?_; conv => whnf) | (refine ⟨fun q => absurd q (by decide), fun _ => ?_⟩) | (refine ⟨fun _ => ?_, fun q => absurd (by decide) q⟩) | (refine ac_get M.1 ?_; conv => whnf) | (refine ⟨_, M.1, Nat.le_of_ble_eq_true rfl, Nat.le_of_ble_eq_true rfl, Nat.le_of_ble_eq_true rfl, ?_⟩) | (refine ⟨Nat.le_of_ble_eq_true rfl, Nat.le_of_ble_eq_true rfl, Nat.le_of_ble_eq_true rfl, ?_⟩))
    exact ⟨rfl, Or.inl rfl, h1 e _ _ _ M F, by decide, by decide⟩
  | some i =>
    have hi := W.2.1 k i hk e
    have hi5 := m_w5 W hi
    repeat (first | (refine hP _ _ _ _ _ _ ?_; conv => whnf) | (refine ⟨fun q => absurd q (by decide), fun _ => ?_⟩) | (refine ⟨fun _ => ?_, fun q => absurd (by decide) q⟩) | (refine ac_get M.1 ?_; conv => whnf) | (refine ⟨_, M.1, Nat.le_of_ble_eq_true rfl, Nat.le_of_ble_eq_true rfl, Nat.le_of_ble_eq_true rfl, ?_⟩) | (refine ⟨Nat.le_of_ble_eq_true rfl, Nat.le_of_ble_eq_true rfl, Nat.le_of_ble_eq_true rfl, ?_⟩))
    refine br_f (m_rvS hi5) ?_
    repeat (first | (refine hP _ _ _ _ _ _ ?_; conv => whnf) | (refine ⟨fun q => absurd q (by decide), fun _ => ?_⟩) | (refine ⟨fun _ => ?_, fun q => absurd (by decide) q⟩) | (refine ac_get M.1 ?_; conv => whnf) | (refine ⟨_, M.1, Nat.le_of_ble_eq_true rfl, Nat.le_of_ble_eq_true rfl, Nat.le_of_ble_eq_true rfl, ?_⟩) | (refine ⟨Nat.le_of_ble_eq_true rfl, Nat.le_of_ble_eq_true rfl, Nat.le_of_ble_eq_true rfl, ?_⟩))
    refine r_good1 M (fun h' M F => ?_)
    repeat (first | (refine hP _ _ _ _ _ _ ?_; conv => whnf) | (refine ⟨fun q => absurd q (by decide), fun _ => ?_⟩) | (refine ⟨fun _ => ?_, fun q => absurd (by decide) q⟩) | (refine ac_get M.1 ?_; conv => whnf) | (refine ⟨_, M.1, Nat.le_of_ble_eq_true rfl, Nat.le_of_ble_eq_true rfl, Nat.le_of_ble_eq_true rfl, ?_⟩) | (refine ⟨Nat.le_of_ble_eq_true rfl, Nat.le_of_ble_eq_true rfl, Nat.le_of_ble_eq_true rfl, ?_⟩))
    refine r_sort M W hi ?_
    repeat (first | (refine hP _ _ _ _ _ _ ?_; conv => whnf) | (refine ⟨fun q => absurd q (by decide), fun _ => ?_⟩) | (refine ⟨fun _ => ?_, fun q => absurd (by decide) q⟩) | (refine ac_get M.1 ?_; conv => whnf) | (refine ⟨_, M.1, Nat.le_of_ble_eq_true rfl, Nat.le_of_ble_eq_true rfl, Nat.le_of_ble_eq_true rfl, ?_⟩) | (refine ⟨Nat.le_of_ble_eq_true rfl, Nat.le_of_ble_eq_true rfl, Nat.le_of_ble_eq_true rfl, ?_⟩))
    have hkd := (W.2.2 i hi).2.2.2.2.1
    refine ⟨fun q => ?_, fun q => ?_⟩
    · repeat (first | (refine hP _ _ _ _ _ _ ?_; conv => whnf) | (refine ⟨fun q => absurd q (by decide), fun _ => ?_⟩) | (refine ⟨fun _ => ?_, fun q => absurd (by decide) q⟩) | (refine ac_get M.1 ?_; conv => whnf) | (refine ⟨_, M.1, Nat.le_of_ble_eq_true rfl, Nat.le_of_ble_eq_true rfl, Nat.le_of_ble_eq_true rfl, ?_⟩) | (refine ⟨Nat.le_of_ble_eq_true rfl, Nat.le_of_ble_eq_true rfl, Nat.le_of_ble_eq_true rfl, ?_⟩))
      refine r_good0 M (fun h' M F2 => ?_)
      repeat (first | (refine hP _ _ _ _ _ _ ?_; conv => whnf) | (refine ⟨fun q => absurd q (by decide), fun _ => ?_⟩) | (refine ⟨fun _ => ?_, fun q => absurd (by decide) q⟩) | (refine ac_get M.1 ?_; conv => whnf) | (refine ⟨_, M.1, Nat.le_of_ble_eq_true rfl, Nat.le_of_ble_eq_true rfl, Nat.le_of_ble_eq_true rfl, ?_⟩) | (refine ⟨Nat.le_of_ble_eq_true rfl, Nat.le_of_ble_eq_true rfl, Nat.le_of_ble_eq_true rfl, ?_⟩))
      exact ⟨rfl, Or.inl rfl, h2 i e ((nI_ltI hb (by omega)).mp q) _ _ _ M (m_frT F F2), by decide, by decide⟩
    · repeat (first | (refine hP _ _ _ _ _ _ ?_; conv => whnf) | (refine ⟨fun q => absurd q (by decide), fun _ => ?_⟩) | (refine ⟨fun _ => ?_, fun q => absurd (by decide) q⟩) | (refine ac_get M.1 ?_; conv => whnf) | (refine ⟨_, M.1, Nat.le_of_ble_eq_true rfl, Nat.le_of_ble_eq_true rfl, Nat.le_of_ble_eq_true rfl, ?_⟩) | (refine ⟨Nat.le_of_ble_eq_true rfl, Nat.le_of_ble_eq_true rfl, Nat.le_of_ble_eq_true rfl, ?_⟩))
      have q' : ¬ b < m_kd S (m_gr S i) := fun z => q ((nI_ltI hb (by omega)).mpr z)
      refine r_good1 M (fun h' M F2 => ?_)
      repeat (first | (refine hP _ _ _ _ _ _ ?_; conv => whnf) | (refine ⟨fun q => absurd q (by decide), fun _ => ?_⟩) | (refine ⟨fun _ => ?_, fun q => absurd (by decide) q⟩) | (refine ac_get M.1 ?_; conv => whnf) | (refine ⟨_, M.1, Nat.le_of_ble_eq_true rfl, Nat.le_of_ble_eq_true rfl, Nat.le_of_ble_eq_true rfl, ?_⟩) | (refine ⟨Nat.le_of_ble_eq_true rfl, Nat.le_of_ble_eq_true rfl, Nat.le_of_ble_eq_true rfl, ?_⟩))
      refine r_find M W hi (fun h' M F3 => ?_)
      repeat (first | (refine hP _ _ _ _ _ _ ?_; conv => whnf) | (refine ⟨fun q => absurd q (by decide), fun _ => ?_⟩) | (refine ⟨fun _ => ?_, fun q => absurd (by decide) q⟩) | (refine ac_get M.1 ?_; conv => whnf) | (refine ⟨_, M.1, Nat.le_of_ble_eq_true rfl, Nat.le_of_ble_eq_true rfl, Nat.le_of_ble_eq_true rfl, ?_⟩) | (refine ⟨Nat.le_of_ble_eq_true rfl, Nat.le_of_ble_eq_true rfl, Nat.le_of_ble_eq_true rfl, ?_⟩))
      refine md_wco M (fun h' M F4 => ?_)
      repeat (first | (refine hP _ _ _ _ _ _ ?_; conv => whnf) | (refine ⟨fun q => absurd q (by decide), fun _ => ?_⟩) | (refine ⟨fun _ => ?_, fun q => absurd (by decide) q⟩) | (refine ac_get M.1 ?_; conv => whnf) | (refine ⟨_, M.1, Nat.le_of_ble_eq_true rfl, Nat.le_of_ble_eq_true rfl, Nat.le_of_ble_eq_true rfl, ?_⟩) | (refine ⟨Nat.le_of_ble_eq_true rfl, Nat.le_of_ble_eq_true rfl, Nat.le_of_ble_eq_true rfl, ?_⟩))
      have F5 := m_frT (m_frT F F2) (m_frT F3 F4)
      by_cases q2 : (m_pl S i ix).1 = 7
      · have := h4 i e q' q2 _ (by rw [q2] at M; exact M) F5
        rw [q2]
        repeat (first | (refine hP _ _ _ _ _ _ ?_; conv => whnf) | (refine ⟨fun q => absurd q (by decide), fun _ => ?_⟩) | (refine ⟨fun _ => ?_, fun q => absurd (by decide) q⟩) | (refine ac_get M.1 ?_; conv => whnf) | (refine ⟨_, M.1, Nat.le_of_ble_eq_true rfl, Nat.le_of_ble_eq_true rfl, Nat.le_of_ble_eq_true rfl, ?_⟩) | (refine ⟨Nat.le_of_ble_eq_true rfl, Nat.le_of_ble_eq_true rfl, Nat.le_of_ble_eq_true rfl, ?_⟩))
        exact ⟨rfl, Or.inr rfl, this, by decide, by decide⟩
      · have := h3 i e q' q2 _ _ _ M F5
        refine br_t ?_ ?_
        · rcases m_pl3 (S := S) (i := i) (ix := ix) with z | z | z
          · rw [z]; decide
          · rw [z]; decide
          · exact absurd z q2
        · repeat (first | (refine hP _ _ _ _ _ _ ?_; conv => whnf) | (refine ⟨fun q => absurd q (by decide), fun _ => ?_⟩) | (refine ⟨fun _ => ?_, fun q => absurd (by decide) q⟩) | (refine ac_get M.1 ?_; conv => whnf) | (refine ⟨_, M.1, Nat.le_of_ble_eq_true rfl, Nat.le_of_ble_eq_true rfl, Nat.le_of_ble_eq_true rfl, ?_⟩) | (refine ⟨Nat.le_of_ble_eq_true rfl, Nat.le_of_ble_eq_true rfl, Nat.le_of_ble_eq_true rfl, ?_⟩))
          exact ⟨rfl, Or.inl rfl, this, by decide, by decide⟩
end REFB
