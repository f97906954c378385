/-! ===== the reference: cells, references, records ===== -/
theorem l_div1 (p : Int64) : p / (-1) = 0 - p := by
  apply Int64.toInt_inj.mp
  rw [Int64.toInt_div, Int64.toInt_sub, show (-1 : Int64).toInt = -1 by decide, show (0 : Int64).toInt = 0 by decide, Int.tdiv_neg, Int.tdiv_one, Int.zero_sub]
theorem l_rem1 (p : Int64) : p - p / (-1) * (-1) = 0 := by
  rw [l_div1, Int64.zero_sub, Int64.neg_mul_neg, Int64.mul_one, Int64.sub_self]
theorem i_div1 (p : Int32) : p / (-1) = 0 - p := by
  apply Int32.toInt_inj.mp
  rw [Int32.toInt_div, Int32.toInt_sub, show (-1 : Int32).toInt = -1 by decide, show (0 : Int32).toInt = 0 by decide, Int.tdiv_neg, Int.tdiv_one, Int.zero_sub]
section REFE
variable {h : ac_H} {mm : Nat} {ar : Nat → Nat} {S : m_S} {ve el co : Int32} {Q : ac_Q}
theorem r_row (M : m_md h mm ar S ve el co) (W : m_wf S) {k : Nat} (hk : k < 8) {w : Int32} (h1 : m_rg S k = none → ∀ h' ve el, m_md h' mm ar S ve el 3 → m_fr mm ar h h' → Q (.inl (some (.int 0))) h')
    (h2 : ∀ i, m_rg S k = some i → ¬ m_kd S i = 9 → ∀ h' ve el, m_md h' mm ar S ve el 2 → m_fr mm ar h h' → Q (.inl (some (.int 0))) h')
    (h3 : ∀ i, m_rg S k = some i → m_kd S i = 9 → m_bad w (m_ln S i) → ∀ h' ve el, m_md h' mm ar S ve el 4 → m_fr mm ar h h' → Q (.inl (some (.int 0))) h')
    (h4 : ∀ i, m_rg S k = some i → m_kd S i = 9 → ¬ m_bad w (m_ln S i) → ∀ h' ve el, m_md h' mm ar S ve el 0 → m_fr mm ar h h' → Q (.inl (some (.int 1))) h') : T_X6_row [.ref mm, .int (nI k), .int w] h Q := by
  have G : m_fr mm ar h h := m_fr0
  (intro P hP; conv => whnf)
  repeat (first | (refine hP _ _ _ _ _ _ ?_; conv => whnf) | (refine ⟨fun q => absurd q (by decide), fun _ => ?_⟩) | (refine ⟨fun _ => ?_, fun q => absurd (by decide) q⟩) | (refine ac_get M.1 ?_; conv => whnf) | (refine ⟨_, M.1, Nat.le_of_ble_eq_true rfl, Nat.le_of_ble_eq_true rfl, Nat.le_of_ble_eq_true rfl, ?_⟩) | (refine ⟨Nat.le_of_ble_eq_true rfl, Nat.le_of_ble_eq_true rfl, Nat.le_of_ble_eq_true rfl, ?_⟩))
  refine md_rg M rfl hk ?_
  cases e : m_rg S k with
  | none =>
    repeat (first | (refine hP _ _ _ _ _ _ ?_; conv => whnf) | (refine ⟨fun q => absurd q (by decide), fun _ => ?_⟩) | (refine ⟨fun _ => ?_, fun q => absurd (by decide) q⟩) | (refine ac_get M.1 ?_; conv => whnf) | (refine ⟨_, M.1, Nat.le_of_ble_eq_true rfl, Nat.le_of_ble_eq_true rfl, Nat.le_of_ble_eq_true rfl, ?_⟩) | (refine ⟨Nat.le_of_ble_eq_true rfl, Nat.le_of_ble_eq_true rfl, Nat.le_of_ble_eq_true rfl, ?_⟩))
    (refine r_good1 M (fun h M F => ?_); replace G := m_frT G F)
    repeat (first | (refine hP _ _ _ _ _ _ ?_; conv => whnf) | (refine ⟨fun q => absurd q (by decide), fun _ => ?_⟩) | (refine ⟨fun _ => ?_, fun q => absurd (by decide) q⟩) | (refine ac_get M.1 ?_; conv => whnf) | (refine ⟨_, M.1, Nat.le_of_ble_eq_true rfl, Nat.le_of_ble_eq_true rfl, Nat.le_of_ble_eq_true rfl, ?_⟩) | (refine ⟨Nat.le_of_ble_eq_true rfl, Nat.le_of_ble_eq_true rfl, Nat.le_of_ble_eq_true rfl, ?_⟩))
    (refine r_good0 M (fun h M F => ?_); replace G := m_frT G F)
    repeat (first | (refine hP _ _ _ _ _ _ ?_; conv => whnf) | (refine ⟨fun q => absurd q (by decide), fun _ => ?_⟩) | (refine ⟨fun _ => ?_, fun q => absurd (by decide) q⟩) | (refine ac_get M.1 ?_; conv => whnf) | (refine ⟨_, M.1, Nat.le_of_ble_eq_true rfl, Nat.le_of_ble_eq_true rfl, Nat.le_of_ble_eq_true rfl, ?_⟩) | (refine ⟨Nat.le_of_ble_eq_true rfl, Nat.le_of_ble_eq_true rfl, Nat.le_of_ble_eq_true rfl, ?_⟩))
    exact ⟨rfl, Or.inl rfl, h1 e _ _ _ M G, by decide, by decide⟩
  | some i =>
    have hi := W.2.1 k i hk e
    have hi5 := m_w5 W hi
    obtain ⟨w1, w2, w3, w4, w5, w6, w7, w8, w9, w10⟩ := W.2.2 i hi
    repeat (first | (refine hP _ _ _ _ _ _ ?_; conv => whnf) | (refine ⟨fun q => absurd q (by decide), fun _ => ?_⟩) | (refine ⟨fun _ => ?_, fun q => absurd (by decide) q⟩) | (refine ac_get M.1 ?_; conv => whnf) | (refine ⟨_, M.1, Nat.le_of_ble_eq_true rfl, Nat.le_of_ble_eq_true rfl, Nat.le_of_ble_eq_true rfl, ?_⟩) | (refine ⟨Nat.le_of_ble_eq_true rfl, Nat.le_of_ble_eq_true rfl, Nat.le_of_ble_eq_true rfl, ?_⟩))
    refine br_f (m_rvS hi5) ?_
    repeat (first | (refine hP _ _ _ _ _ _ ?_; conv => whnf) | (refine ⟨fun q => absurd q (by decide), fun _ => ?_⟩) | (refine ⟨fun _ => ?_, fun q => absurd (by decide) q⟩) | (refine ac_get M.1 ?_; conv => whnf) | (refine ⟨_, M.1, Nat.le_of_ble_eq_true rfl, Nat.le_of_ble_eq_true rfl, Nat.le_of_ble_eq_true rfl, ?_⟩) | (refine ⟨Nat.le_of_ble_eq_true rfl, Nat.le_of_ble_eq_true rfl, Nat.le_of_ble_eq_true rfl, ?_⟩))
    refine md_kd M rfl hi5 ?_
    repeat (first | (refine hP _ _ _ _ _ _ ?_; conv => whnf) | (refine ⟨fun q => absurd q (by decide), fun _ => ?_⟩) | (refine ⟨fun _ => ?_, fun q => absurd (by decide) q⟩) | (refine ac_get M.1 ?_; conv => whnf) | (refine ⟨_, M.1, Nat.le_of_ble_eq_true rfl, Nat.le_of_ble_eq_true rfl, Nat.le_of_ble_eq_true rfl, ?_⟩) | (refine ⟨Nat.le_of_ble_eq_true rfl, Nat.le_of_ble_eq_true rfl, Nat.le_of_ble_eq_true rfl, ?_⟩))
    by_cases k9 : m_kd S i = 9
    · refine br_f (fun z => z (by rw [k9]; rfl)) ?_
      repeat (first | (refine hP _ _ _ _ _ _ ?_; conv => whnf) | (refine ⟨fun q => absurd q (by decide), fun _ => ?_⟩) | (refine ⟨fun _ => ?_, fun q => absurd (by decide) q⟩) | (refine ac_get M.1 ?_; conv => whnf) | (refine ⟨_, M.1, Nat.le_of_ble_eq_true rfl, Nat.le_of_ble_eq_true rfl, Nat.le_of_ble_eq_true rfl, ?_⟩) | (refine ⟨Nat.le_of_ble_eq_true rfl, Nat.le_of_ble_eq_true rfl, Nat.le_of_ble_eq_true rfl, ?_⟩))
      (refine r_good1 M (fun h M F => ?_); replace G := m_frT G F)
      repeat (first | (refine hP _ _ _ _ _ _ ?_; conv => whnf) | (refine ⟨fun q => absurd q (by decide), fun _ => ?_⟩) | (refine ⟨fun _ => ?_, fun q => absurd (by decide) q⟩) | (refine ac_get M.1 ?_; conv => whnf) | (refine ⟨_, M.1, Nat.le_of_ble_eq_true rfl, Nat.le_of_ble_eq_true rfl, Nat.le_of_ble_eq_true rfl, ?_⟩) | (refine ⟨Nat.le_of_ble_eq_true rfl, Nat.le_of_ble_eq_true rfl, Nat.le_of_ble_eq_true rfl, ?_⟩))
      refine br_f (m_rvS hi5) ?_
      repeat (first | (refine hP _ _ _ _ _ _ ?_; conv => whnf) | (refine ⟨fun q => absurd q (by decide), fun _ => ?_⟩) | (refine ⟨fun _ => ?_, fun q => absurd (by decide) q⟩) | (refine ac_get M.1 ?_; conv => whnf) | (refine ⟨_, M.1, Nat.le_of_ble_eq_true rfl, Nat.le_of_ble_eq_true rfl, Nat.le_of_ble_eq_true rfl, ?_⟩) | (refine ⟨Nat.le_of_ble_eq_true rfl, Nat.le_of_ble_eq_true rfl, Nat.le_of_ble_eq_true rfl, ?_⟩))
      (refine r_good1 M (fun h M F => ?_); replace G := m_frT G F)
      repeat (first | (refine hP _ _ _ _ _ _ ?_; conv => whnf) | (refine ⟨fun q => absurd q (by decide), fun _ => ?_⟩) | (refine ⟨fun _ => ?_, fun q => absurd (by decide) q⟩) | (refine ac_get M.1 ?_; conv => whnf) | (refine ⟨_, M.1, Nat.le_of_ble_eq_true rfl, Nat.le_of_ble_eq_true rfl, Nat.le_of_ble_eq_true rfl, ?_⟩) | (refine ⟨Nat.le_of_ble_eq_true rfl, Nat.le_of_ble_eq_true rfl, Nat.le_of_ble_eq_true rfl, ?_⟩))
      refine md_ln M rfl hi5 ?_
      repeat (first | (refine hP _ _ _ _ _ _ ?_; conv => whnf) | (refine ⟨fun q => absurd q (by decide), fun _ => ?_⟩) | (refine ⟨fun _ => ?_, fun q => absurd (by decide) q⟩) | (refine ac_get M.1 ?_; conv => whnf) | (refine ⟨_, M.1, Nat.le_of_ble_eq_true rfl, Nat.le_of_ble_eq_true rfl, Nat.le_of_ble_eq_true rfl, ?_⟩) | (refine ⟨Nat.le_of_ble_eq_true rfl, Nat.le_of_ble_eq_true rfl, Nat.le_of_ble_eq_true rfl, ?_⟩))
      refine r_in (fun q => ?_) (fun q => ?_)
      · repeat (first | (refine hP _ _ _ _ _ _ ?_; conv => whnf) | (refine ⟨fun q => absurd q (by decide), fun _ => ?_⟩) | (refine ⟨fun _ => ?_, fun q => absurd (by decide) q⟩) | (refine ac_get M.1 ?_; conv => whnf) | (refine ⟨_, M.1, Nat.le_of_ble_eq_true rfl, Nat.le_of_ble_eq_true rfl, Nat.le_of_ble_eq_true rfl, ?_⟩) | (refine ⟨Nat.le_of_ble_eq_true rfl, Nat.le_of_ble_eq_true rfl, Nat.le_of_ble_eq_true rfl, ?_⟩))
        (refine r_good0 M (fun h M F => ?_); replace G := m_frT G F)
        repeat (first | (refine hP _ _ _ _ _ _ ?_; conv => whnf) | (refine ⟨fun q => absurd q (by decide), fun _ => ?_⟩) | (refine ⟨fun _ => ?_, fun q => absurd (by decide) q⟩) | (refine ac_get M.1 ?_; conv => whnf) | (refine ⟨_, M.1, Nat.le_of_ble_eq_true rfl, Nat.le_of_ble_eq_true rfl, Nat.le_of_ble_eq_true rfl, ?_⟩) | (refine ⟨Nat.le_of_ble_eq_true rfl, Nat.le_of_ble_eq_true rfl, Nat.le_of_ble_eq_true rfl, ?_⟩))
        exact ⟨rfl, Or.inl rfl, h3 i e k9 ((m_badL (by omega)).mp q) _ _ _ M G, by decide, by decide⟩
      · repeat (first | (refine hP _ _ _ _ _ _ ?_; conv => whnf) | (refine ⟨fun q => absurd q (by decide), fun _ => ?_⟩) | (refine ⟨fun _ => ?_, fun q => absurd (by decide) q⟩) | (refine ac_get M.1 ?_; conv => whnf) | (refine ⟨_, M.1, Nat.le_of_ble_eq_true rfl, Nat.le_of_ble_eq_true rfl, Nat.le_of_ble_eq_true rfl, ?_⟩) | (refine ⟨Nat.le_of_ble_eq_true rfl, Nat.le_of_ble_eq_true rfl, Nat.le_of_ble_eq_true rfl, ?_⟩))
        (refine r_good1 M (fun h M F => ?_); replace G := m_frT G F)
        repeat (first | (refine hP _ _ _ _ _ _ ?_; conv => whnf) | (refine ⟨fun q => absurd q (by decide), fun _ => ?_⟩) | (refine ⟨fun _ => ?_, fun q => absurd (by decide) q⟩) | (refine ac_get M.1 ?_; conv => whnf) | (refine ⟨_, M.1, Nat.le_of_ble_eq_true rfl, Nat.le_of_ble_eq_true rfl, Nat.le_of_ble_eq_true rfl, ?_⟩) | (refine ⟨Nat.le_of_ble_eq_true rfl, Nat.le_of_ble_eq_true rfl, Nat.le_of_ble_eq_true rfl, ?_⟩))
        exact ⟨rfl, Or.inr rfl, h4 i e k9 (fun z => q ((m_badL (by omega)).mpr z)) _ _ _ M G, by decide, by decide⟩
    · refine br_t (nI_ne (b := 9) k9 (by omega) (by decide)) ?_
      repeat (first | (refine hP _ _ _ _ _ _ ?_; conv => whnf) | (refine ⟨fun q => absurd q (by decide), fun _ => ?_⟩) | (refine ⟨fun _ => ?_, fun q => absurd (by decide) q⟩) | (refine ac_get M.1 ?_; conv => whnf) | (refine ⟨_, M.1, Nat.le_of_ble_eq_true rfl, Nat.le_of_ble_eq_true rfl, Nat.le_of_ble_eq_true rfl, ?_⟩) | (refine ⟨Nat.le_of_ble_eq_true rfl, Nat.le_of_ble_eq_true rfl, Nat.le_of_ble_eq_true rfl, ?_⟩))
      (refine r_good0 M (fun h M F => ?_); replace G := m_frT G F)
      repeat (first | (refine hP _ _ _ _ _ _ ?_; conv => whnf) | (refine ⟨fun q => absurd q (by decide), fun _ => ?_⟩) | (refine ⟨fun _ => ?_, fun q => absurd (by decide) q⟩) | (refine ac_get M.1 ?_; conv => whnf) | (refine ⟨_, M.1, Nat.le_of_ble_eq_true rfl, Nat.le_of_ble_eq_true rfl, Nat.le_of_ble_eq_true rfl, ?_⟩) | (refine ⟨Nat.le_of_ble_eq_true rfl, Nat.le_of_ble_eq_true rfl, Nat.le_of_ble_eq_true rfl, ?_⟩))
      exact ⟨rfl, Or.inl rfl, h2 i e k9 _ _ _ M G, by decide, by decide⟩
theorem r_column (M : m_md h mm ar S ve el co) (W : m_wf S) {k i t : Nat} (hk : k < 8) (e : m_rg S k = some i) (k9 : m_kd S i = 9) (ht : t < m_ln S i) {c : Int32}
    (h1 : m_lo S (6 * i + t) = true → ∀ h' ve el, m_md h' mm ar S ve el 3 → m_fr mm ar h h' → Q (.inl (some (.int 0))) h')
    (h2 : m_lo S (6 * i + t) = false → m_bad c (m_wd S i) → ∀ h' ve el, m_md h' mm ar S ve el 4 → m_fr mm ar h h' → Q (.inl (some (.int 0))) h')
    (h3 : m_lo S (6 * i + t) = false → ¬ m_bad c (m_wd S i) → ∀ h', m_md h' mm ar S (nI i) (nI (m_wd S i * t) + c) 0 → m_fr mm ar h h' → Q (.inl (some (.int 1))) h') : T_X6_column [.ref mm, .int (nI k), .int (nI t), .int c] h Q := by
  have G : m_fr mm ar h h := m_fr0
  have hi := W.2.1 k i hk e
  have hi5 := m_w5 W hi
  have hw := (W.2.2 i hi).2.2.2.2.2.1 k9
  (intro P hP; conv => whnf)
  repeat (first | (refine hP _ _ _ _ _ _ ?_; conv => whnf) | (refine ⟨fun q => absurd q (by decide), fun _ => ?_⟩) | (refine ⟨fun _ => ?_, fun q => absurd (by decide) q⟩) | (refine ac_get M.1 ?_; conv => whnf) | (refine ⟨_, M.1, Nat.le_of_ble_eq_true rfl, Nat.le_of_ble_eq_true rfl, Nat.le_of_ble_eq_true rfl, ?_⟩) | (refine ⟨Nat.le_of_ble_eq_true rfl, Nat.le_of_ble_eq_true rfl, Nat.le_of_ble_eq_true rfl, ?_⟩))
  refine md_rg M rfl hk ?_
  rw [e]
  repeat (first | (refine hP _ _ _ _ _ _ ?_; conv => whnf) | (refine ⟨fun q => absurd q (by decide), fun _ => ?_⟩) | (refine ⟨fun _ => ?_, fun q => absurd (by decide) q⟩) | (refine ac_get M.1 ?_; conv => whnf) | (refine ⟨_, M.1, Nat.le_of_ble_eq_true rfl, Nat.le_of_ble_eq_true rfl, Nat.le_of_ble_eq_true rfl, ?_⟩) | (refine ⟨Nat.le_of_ble_eq_true rfl, Nat.le_of_ble_eq_true rfl, Nat.le_of_ble_eq_true rfl, ?_⟩))
  refine md_wve M (fun h M F => ?_)
  replace G := m_frT G F
  repeat (first | (refine hP _ _ _ _ _ _ ?_; conv => whnf) | (refine ⟨fun q => absurd q (by decide), fun _ => ?_⟩) | (refine ⟨fun _ => ?_, fun q => absurd (by decide) q⟩) | (refine ac_get M.1 ?_; conv => whnf) | (refine ⟨_, M.1, Nat.le_of_ble_eq_true rfl, Nat.le_of_ble_eq_true rfl, Nat.le_of_ble_eq_true rfl, ?_⟩) | (refine ⟨Nat.le_of_ble_eq_true rfl, Nat.le_of_ble_eq_true rfl, Nat.le_of_ble_eq_true rfl, ?_⟩))
  refine md_wd M (q := i) rfl hi5 ?_
  repeat (first | (refine hP _ _ _ _ _ _ ?_; conv => whnf) | (refine ⟨fun q => absurd q (by decide), fun _ => ?_⟩) | (refine ⟨fun _ => ?_, fun q => absurd (by decide) q⟩) | (refine ac_get M.1 ?_; conv => whnf) | (refine ⟨_, M.1, Nat.le_of_ble_eq_true rfl, Nat.le_of_ble_eq_true rfl, Nat.le_of_ble_eq_true rfl, ?_⟩) | (refine ⟨Nat.le_of_ble_eq_true rfl, Nat.le_of_ble_eq_true rfl, Nat.le_of_ble_eq_true rfl, ?_⟩))
  refine md_wel M (fun h M F => ?_)
  replace G := m_frT G F
  repeat (first | (refine hP _ _ _ _ _ _ ?_; conv => whnf) | (refine ⟨fun q => absurd q (by decide), fun _ => ?_⟩) | (refine ⟨fun _ => ?_, fun q => absurd (by decide) q⟩) | (refine ac_get M.1 ?_; conv => whnf) | (refine ⟨_, M.1, Nat.le_of_ble_eq_true rfl, Nat.le_of_ble_eq_true rfl, Nat.le_of_ble_eq_true rfl, ?_⟩) | (refine ⟨Nat.le_of_ble_eq_true rfl, Nat.le_of_ble_eq_true rfl, Nat.le_of_ble_eq_true rfl, ?_⟩))
  refine md_lo M (nI_6 i t) (by omega) ?_
  cases e2 : m_lo S (6 * i + t) with
  | true =>
    repeat (first | (refine hP _ _ _ _ _ _ ?_; conv => whnf) | (refine ⟨fun q => absurd q (by decide), fun _ => ?_⟩) | (refine ⟨fun _ => ?_, fun q => absurd (by decide) q⟩) | (refine ac_get M.1 ?_; conv => whnf) | (refine ⟨_, M.1, Nat.le_of_ble_eq_true rfl, Nat.le_of_ble_eq_true rfl, Nat.le_of_ble_eq_true rfl, ?_⟩) | (refine ⟨Nat.le_of_ble_eq_true rfl, Nat.le_of_ble_eq_true rfl, Nat.le_of_ble_eq_true rfl, ?_⟩))
    (refine r_good0 M (fun h M F => ?_); replace G := m_frT G F)
    repeat (first | (refine hP _ _ _ _ _ _ ?_; conv => whnf) | (refine ⟨fun q => absurd q (by decide), fun _ => ?_⟩) | (refine ⟨fun _ => ?_, fun q => absurd (by decide) q⟩) | (refine ac_get M.1 ?_; conv => whnf) | (refine ⟨_, M.1, Nat.le_of_ble_eq_true rfl, Nat.le_of_ble_eq_true rfl, Nat.le_of_ble_eq_true rfl, ?_⟩) | (refine ⟨Nat.le_of_ble_eq_true rfl, Nat.le_of_ble_eq_true rfl, Nat.le_of_ble_eq_true rfl, ?_⟩))
    exact ⟨rfl, Or.inl rfl, h1 e2 _ _ _ M G, by decide, by decide⟩
  | false =>
    repeat (first | (refine hP _ _ _ _ _ _ ?_; conv => whnf) | (refine ⟨fun q => absurd q (by decide), fun _ => ?_⟩) | (refine ⟨fun _ => ?_, fun q => absurd (by decide) q⟩) | (refine ac_get M.1 ?_; conv => whnf) | (refine ⟨_, M.1, Nat.le_of_ble_eq_true rfl, Nat.le_of_ble_eq_true rfl, Nat.le_of_ble_eq_true rfl, ?_⟩) | (refine ⟨Nat.le_of_ble_eq_true rfl, Nat.le_of_ble_eq_true rfl, Nat.le_of_ble_eq_true rfl, ?_⟩))
    (refine r_good1 M (fun h M F => ?_); replace G := m_frT G F)
    repeat (first | (refine hP _ _ _ _ _ _ ?_; conv => whnf) | (refine ⟨fun q => absurd q (by decide), fun _ => ?_⟩) | (refine ⟨fun _ => ?_, fun q => absurd (by decide) q⟩) | (refine ac_get M.1 ?_; conv => whnf) | (refine ⟨_, M.1, Nat.le_of_ble_eq_true rfl, Nat.le_of_ble_eq_true rfl, Nat.le_of_ble_eq_true rfl, ?_⟩) | (refine ⟨Nat.le_of_ble_eq_true rfl, Nat.le_of_ble_eq_true rfl, Nat.le_of_ble_eq_true rfl, ?_⟩))
    refine md_wd M (q := i) rfl hi5 ?_
    repeat (first | (refine hP _ _ _ _ _ _ ?_; conv => whnf) | (refine ⟨fun q => absurd q (by decide), fun _ => ?_⟩) | (refine ⟨fun _ => ?_, fun q => absurd (by decide) q⟩) | (refine ac_get M.1 ?_; conv => whnf) | (refine ⟨_, M.1, Nat.le_of_ble_eq_true rfl, Nat.le_of_ble_eq_true rfl, Nat.le_of_ble_eq_true rfl, ?_⟩) | (refine ⟨Nat.le_of_ble_eq_true rfl, Nat.le_of_ble_eq_true rfl, Nat.le_of_ble_eq_true rfl, ?_⟩))
    refine r_in (fun q => ?_) (fun q => ?_)
    · repeat (first | (refine hP _ _ _ _ _ _ ?_; conv => whnf) | (refine ⟨fun q => absurd q (by decide), fun _ => ?_⟩) | (refine ⟨fun _ => ?_, fun q => absurd (by decide) q⟩) | (refine ac_get M.1 ?_; conv => whnf) | (refine ⟨_, M.1, Nat.le_of_ble_eq_true rfl, Nat.le_of_ble_eq_true rfl, Nat.le_of_ble_eq_true rfl, ?_⟩) | (refine ⟨Nat.le_of_ble_eq_true rfl, Nat.le_of_ble_eq_true rfl, Nat.le_of_ble_eq_true rfl, ?_⟩))
      (refine r_good0 M (fun h M F => ?_); replace G := m_frT G F)
      repeat (first | (refine hP _ _ _ _ _ _ ?_; conv => whnf) | (refine ⟨fun q => absurd q (by decide), fun _ => ?_⟩) | (refine ⟨fun _ => ?_, fun q => absurd (by decide) q⟩) | (refine ac_get M.1 ?_; conv => whnf) | (refine ⟨_, M.1, Nat.le_of_ble_eq_true rfl, Nat.le_of_ble_eq_true rfl, Nat.le_of_ble_eq_true rfl, ?_⟩) | (refine ⟨Nat.le_of_ble_eq_true rfl, Nat.le_of_ble_eq_true rfl, Nat.le_of_ble_eq_true rfl, ?_⟩))
      exact ⟨rfl, Or.inl rfl, h2 e2 ((m_badL (by omega)).mp q) _ _ _ M G, by decide, by decide⟩
    · repeat (first | (refine hP _ _ _ _ _ _ ?_; conv => whnf) | (refine ⟨fun q => absurd q (by decide), fun _ => ?_⟩) | (refine ⟨fun _ => ?_, fun q => absurd (by decide) q⟩) | (refine ac_get M.1 ?_; conv => whnf) | (refine ⟨_, M.1, Nat.le_of_ble_eq_true rfl, Nat.le_of_ble_eq_true rfl, Nat.le_of_ble_eq_true rfl, ?_⟩) | (refine ⟨Nat.le_of_ble_eq_true rfl, Nat.le_of_ble_eq_true rfl, Nat.le_of_ble_eq_true rfl, ?_⟩))
      (refine r_good1 M (fun h M F => ?_); replace G := m_frT G F)
      repeat (first | (refine hP _ _ _ _ _ _ ?_; conv => whnf) | (refine ⟨fun q => absurd q (by decide), fun _ => ?_⟩) | (refine ⟨fun _ => ?_, fun q => absurd (by decide) q⟩) | (refine ac_get M.1 ?_; conv => whnf) | (refine ⟨_, M.1, Nat.le_of_ble_eq_true rfl, Nat.le_of_ble_eq_true rfl, Nat.le_of_ble_eq_true rfl, ?_⟩) | (refine ⟨Nat.le_of_ble_eq_true rfl, Nat.le_of_ble_eq_true rfl, Nat.le_of_ble_eq_true rfl, ?_⟩))
      have M' : m_md h mm ar S (nI i) (nI (m_wd S i * t) + c) 0 := by
        rw [← nI_mul]
        exact M
      exact ⟨rfl, Or.inr rfl, h3 e2 (fun z => q ((m_badL (by omega)).mpr z)) _ M' G, by decide, by decide⟩
theorem m_gcell (W : m_wf S) {i t c : Nat} (hi : i < m_mk S) (k9 : m_kd S i = 9) (ht : t < m_ln S i) (hc : c < m_wd S i) : m_wd S i * t + c < 24 := by
  obtain ⟨w1, w2⟩ := (W.2.2 i hi).2.2.2.2.2.1 k9
  have h1 : m_wd S i * t ≤ m_wd S i * 5 := Nat.mul_le_mul_left _ (by omega)
  omega
theorem R_cell (M : m_md h mm ar S ve el co) (W : m_wf S) {r w c : Int32} (hQ : m_app (fun x a S' => ∀ h' ve el, m_md h' mm ar S' ve el (m_ct 1 x) → m_fr mm ar h h' → Q (.inl (some (.int a))) h') (f_cell S r w c)) : T_X6_cell [.ref mm, .int r, .int w, .int c] h Q := by
  have G : m_fr mm ar h h := m_fr0
  unfold f_cell at hQ
  (intro P hP; conv => whnf)
  repeat (first | (refine hP _ _ _ _ _ _ ?_; conv => whnf) | (refine ⟨fun q => absurd q (by decide), fun _ => ?_⟩) | (refine ⟨fun _ => ?_, fun q => absurd (by decide) q⟩) | (refine ac_get M.1 ?_; conv => whnf) | (refine ⟨_, M.1, Nat.le_of_ble_eq_true rfl, Nat.le_of_ble_eq_true rfl, Nat.le_of_ble_eq_true rfl, ?_⟩) | (refine ⟨Nat.le_of_ble_eq_true rfl, Nat.le_of_ble_eq_true rfl, Nat.le_of_ble_eq_true rfl, ?_⟩))
  refine r_known M (fun q h M F => ?_) (fun q h M F => ?_)
  · replace G := m_frT G F
    rw [if_pos (q.elim id (fun z => absurd z (by decide)))] at hQ
    repeat (first | (refine hP _ _ _ _ _ _ ?_; conv => whnf) | (refine ⟨fun q => absurd q (by decide), fun _ => ?_⟩) | (refine ⟨fun _ => ?_, fun q => absurd (by decide) q⟩) | (refine ac_get M.1 ?_; conv => whnf) | (refine ⟨_, M.1, Nat.le_of_ble_eq_true rfl, Nat.le_of_ble_eq_true rfl, Nat.le_of_ble_eq_true rfl, ?_⟩) | (refine ⟨Nat.le_of_ble_eq_true rfl, Nat.le_of_ble_eq_true rfl, Nat.le_of_ble_eq_true rfl, ?_⟩))
    exact ⟨rfl, hQ _ _ _ M G, by decide, by decide⟩
  · replace G := m_frT G F
    rw [if_neg (fun z => q (Or.inl z))] at hQ
    obtain ⟨k, hk, rfl⟩ := m_badN (by decide) (fun z => q (Or.inl z))
    rw [nI_clamp (by omega)] at hQ
    repeat (first | (refine hP _ _ _ _ _ _ ?_; conv => whnf) | (refine ⟨fun q => absurd q (by decide), fun _ => ?_⟩) | (refine ⟨fun _ => ?_, fun q => absurd (by decide) q⟩) | (refine ac_get M.1 ?_; conv => whnf) | (refine ⟨_, M.1, Nat.le_of_ble_eq_true rfl, Nat.le_of_ble_eq_true rfl, Nat.le_of_ble_eq_true rfl, ?_⟩) | (refine ⟨Nat.le_of_ble_eq_true rfl, Nat.le_of_ble_eq_true rfl, Nat.le_of_ble_eq_true rfl, ?_⟩))
    refine r_row M W hk (fun e h ve el M F => ?_) (fun i e q1 h ve el M F => ?_) (fun i e q1 q2 h ve el M F => ?_) (fun i e q1 q2 h ve el M F => ?_)
    · replace G := m_frT G F
      rw [e] at hQ
      repeat (first | (refine hP _ _ _ _ _ _ ?_; conv => whnf) | (refine ⟨fun q => absurd q (by decide), fun _ => ?_⟩) | (refine ⟨fun _ => ?_, fun q => absurd (by decide) q⟩) | (refine ac_get M.1 ?_; conv => whnf) | (refine ⟨_, M.1, Nat.le_of_ble_eq_true rfl, Nat.le_of_ble_eq_true rfl, Nat.le_of_ble_eq_true rfl, ?_⟩) | (refine ⟨Nat.le_of_ble_eq_true rfl, Nat.le_of_ble_eq_true rfl, Nat.le_of_ble_eq_true rfl, ?_⟩))
      exact ⟨rfl, hQ _ _ _ M G, by decide, by decide⟩
    · replace G := m_frT G F
      rw [e] at hQ
      replace hQ : m_app _ (i_cell S w c i) := hQ
      unfold i_cell at hQ
      rw [if_pos q1] at hQ
      repeat (first | (refine hP _ _ _ _ _ _ ?_; conv => whnf) | (refine ⟨fun q => absurd q (by decide), fun _ => ?_⟩) | (refine ⟨fun _ => ?_, fun q => absurd (by decide) q⟩) | (refine ac_get M.1 ?_; conv => whnf) | (refine ⟨_, M.1, Nat.le_of_ble_eq_true rfl, Nat.le_of_ble_eq_true rfl, Nat.le_of_ble_eq_true rfl, ?_⟩) | (refine ⟨Nat.le_of_ble_eq_true rfl, Nat.le_of_ble_eq_true rfl, Nat.le_of_ble_eq_true rfl, ?_⟩))
      exact ⟨rfl, hQ _ _ _ M G, by decide, by decide⟩
    · replace G := m_frT G F
      rw [e] at hQ
      replace hQ : m_app _ (i_cell S w c i) := hQ
      unfold i_cell at hQ
      rw [if_neg (fun z => z q1), if_pos q2] at hQ
      repeat (first | (refine hP _ _ _ _ _ _ ?_; conv => whnf) | (refine ⟨fun q => absurd q (by decide), fun _ => ?_⟩) | (refine ⟨fun _ => ?_, fun q => absurd (by decide) q⟩) | (refine ac_get M.1 ?_; conv => whnf) | (refine ⟨_, M.1, Nat.le_of_ble_eq_true rfl, Nat.le_of_ble_eq_true rfl, Nat.le_of_ble_eq_true rfl, ?_⟩) | (refine ⟨Nat.le_of_ble_eq_true rfl, Nat.le_of_ble_eq_true rfl, Nat.le_of_ble_eq_true rfl, ?_⟩))
      exact ⟨rfl, hQ _ _ _ M G, by decide, by decide⟩
    · replace G := m_frT G F
      rw [e] at hQ
      replace hQ : m_app _ (i_cell S w c i) := hQ
      unfold i_cell at hQ
      rw [if_neg (fun z => z q1), if_neg q2] at hQ
      have hi := W.2.1 k i hk e
      have h24 := (W.2.2 _ hi).2.1
      have hw := (W.2.2 i hi).2.2.2.2.2.1 q1
      obtain ⟨t, ht, rfl⟩ := m_badN (by omega) q2
      rw [nI_clamp (by omega)] at hQ
      repeat (first | (refine hP _ _ _ _ _ _ ?_; conv => whnf) | (refine ⟨fun q => absurd q (by decide), fun _ => ?_⟩) | (refine ⟨fun _ => ?_, fun q => absurd (by decide) q⟩) | (refine ac_get M.1 ?_; conv => whnf) | (refine ⟨_, M.1, Nat.le_of_ble_eq_true rfl, Nat.le_of_ble_eq_true rfl, Nat.le_of_ble_eq_true rfl, ?_⟩) | (refine ⟨Nat.le_of_ble_eq_true rfl, Nat.le_of_ble_eq_true rfl, Nat.le_of_ble_eq_true rfl, ?_⟩))
      refine r_column M W hk e q1 ht (fun e2 h ve el M F => ?_) (fun e2 q3 h ve el M F => ?_) (fun e2 q3 h M F => ?_)
      · replace G := m_frT G F
        rw [if_pos e2] at hQ
        repeat (first | (refine hP _ _ _ _ _ _ ?_; conv => whnf) | (refine ⟨fun q => absurd q (by decide), fun _ => ?_⟩) | (refine ⟨fun _ => ?_, fun q => absurd (by decide) q⟩) | (refine ac_get M.1 ?_; conv => whnf) | (refine ⟨_, M.1, Nat.le_of_ble_eq_true rfl, Nat.le_of_ble_eq_true rfl, Nat.le_of_ble_eq_true rfl, ?_⟩) | (refine ⟨Nat.le_of_ble_eq_true rfl, Nat.le_of_ble_eq_true rfl, Nat.le_of_ble_eq_true rfl, ?_⟩))
        exact ⟨rfl, hQ _ _ _ M G, by decide, by decide⟩
      · replace G := m_frT G F
        rw [if_neg (by rw [e2]; decide), if_pos q3] at hQ
        repeat (first | (refine hP _ _ _ _ _ _ ?_; conv => whnf) | (refine ⟨fun q => absurd q (by decide), fun _ => ?_⟩) | (refine ⟨fun _ => ?_, fun q => absurd (by decide) q⟩) | (refine ac_get M.1 ?_; conv => whnf) | (refine ⟨_, M.1, Nat.le_of_ble_eq_true rfl, Nat.le_of_ble_eq_true rfl, Nat.le_of_ble_eq_true rfl, ?_⟩) | (refine ⟨Nat.le_of_ble_eq_true rfl, Nat.le_of_ble_eq_true rfl, Nat.le_of_ble_eq_true rfl, ?_⟩))
        exact ⟨rfl, hQ _ _ _ M G, by decide, by decide⟩
      · replace G := m_frT G F
        rw [if_neg (by rw [e2]; decide), if_neg q3] at hQ
        obtain ⟨u, hu, rfl⟩ := m_badN (by omega) q3
        rw [nI_clamp (by omega)] at hQ
        rw [nI_add] at M
        repeat (first | (refine hP _ _ _ _ _ _ ?_; conv => whnf) | (refine ⟨fun q => absurd q (by decide), fun _ => ?_⟩) | (refine ⟨fun _ => ?_, fun q => absurd (by decide) q⟩) | (refine ac_get M.1 ?_; conv => whnf) | (refine ⟨_, M.1, Nat.le_of_ble_eq_true rfl, Nat.le_of_ble_eq_true rfl, Nat.le_of_ble_eq_true rfl, ?_⟩) | (refine ⟨Nat.le_of_ble_eq_true rfl, Nat.le_of_ble_eq_true rfl, Nat.le_of_ble_eq_true rfl, ?_⟩))
        refine r_here M (m_w5 W hi) (m_gcell W hi q1 ht hu) ?_
        repeat (first | (refine hP _ _ _ _ _ _ ?_; conv => whnf) | (refine ⟨fun q => absurd q (by decide), fun _ => ?_⟩) | (refine ⟨fun _ => ?_, fun q => absurd (by decide) q⟩) | (refine ac_get M.1 ?_; conv => whnf) | (refine ⟨_, M.1, Nat.le_of_ble_eq_true rfl, Nat.le_of_ble_eq_true rfl, Nat.le_of_ble_eq_true rfl, ?_⟩) | (refine ⟨Nat.le_of_ble_eq_true rfl, Nat.le_of_ble_eq_true rfl, Nat.le_of_ble_eq_true rfl, ?_⟩))
        exact ⟨rfl, hQ _ _ _ M G, by decide, by decide⟩
theorem R_setCell (M : m_md h mm ar S ve el co) (W : m_wf S) {r w c v d : Int32} (hQ : m_app (fun x _ S' => ∀ h' ve el, m_md h' mm ar S' ve el (m_ct 1 x) → m_fr mm ar h h' → Q (.inl none) h') (f_setCell S r w c v d)) : T_X6_setCell [.ref mm, .int r, .int w, .int c, .int v, .int d] h Q := by
  have G : m_fr mm ar h h := m_fr0
  unfold f_setCell at hQ
  (intro P hP; conv => whnf)
  repeat (first | (refine hP _ _ _ _ _ _ ?_; conv => whnf) | (refine ⟨fun q => absurd q (by decide), fun _ => ?_⟩) | (refine ⟨fun _ => ?_, fun q => absurd (by decide) q⟩) | (refine ac_get M.1 ?_; conv => whnf) | (refine ⟨_, M.1, Nat.le_of_ble_eq_true rfl, Nat.le_of_ble_eq_true rfl, Nat.le_of_ble_eq_true rfl, ?_⟩) | (refine ⟨Nat.le_of_ble_eq_true rfl, Nat.le_of_ble_eq_true rfl, Nat.le_of_ble_eq_true rfl, ?_⟩))
  refine r_known M (fun q h M F => ?_) (fun q h M F => ?_)
  · replace G := m_frT G F
    rw [if_pos (q.elim id (fun z => absurd z (by decide)))] at hQ
    repeat (first | (refine hP _ _ _ _ _ _ ?_; conv => whnf) | (refine ⟨fun q => absurd q (by decide), fun _ => ?_⟩) | (refine ⟨fun _ => ?_, fun q => absurd (by decide) q⟩) | (refine ac_get M.1 ?_; conv => whnf) | (refine ⟨_, M.1, Nat.le_of_ble_eq_true rfl, Nat.le_of_ble_eq_true rfl, Nat.le_of_ble_eq_true rfl, ?_⟩) | (refine ⟨Nat.le_of_ble_eq_true rfl, Nat.le_of_ble_eq_true rfl, Nat.le_of_ble_eq_true rfl, ?_⟩))
    exact ⟨rfl, hQ _ _ _ M G, by decide, by decide⟩
  · replace G := m_frT G F
    rw [if_neg (fun z => q (Or.inl z))] at hQ
    obtain ⟨k, hk, rfl⟩ := m_badN (by decide) (fun z => q (Or.inl z))
    rw [nI_clamp (by omega)] at hQ
    repeat (first | (refine hP _ _ _ _ _ _ ?_; conv => whnf) | (refine ⟨fun q => absurd q (by decide), fun _ => ?_⟩) | (refine ⟨fun _ => ?_, fun q => absurd (by decide) q⟩) | (refine ac_get M.1 ?_; conv => whnf) | (refine ⟨_, M.1, Nat.le_of_ble_eq_true rfl, Nat.le_of_ble_eq_true rfl, Nat.le_of_ble_eq_true rfl, ?_⟩) | (refine ⟨Nat.le_of_ble_eq_true rfl, Nat.le_of_ble_eq_true rfl, Nat.le_of_ble_eq_true rfl, ?_⟩))
    refine r_row M W hk (fun e h ve el M F => ?_) (fun i e q1 h ve el M F => ?_) (fun i e q1 q2 h ve el M F => ?_) (fun i e q1 q2 h ve el M F => ?_)
    · replace G := m_frT G F
      rw [e] at hQ
      repeat (first | (refine hP _ _ _ _ _ _ ?_; conv => whnf) | (refine ⟨fun q => absurd q (by decide), fun _ => ?_⟩) | (refine ⟨fun _ => ?_, fun q => absurd (by decide) q⟩) | (refine ac_get M.1 ?_; conv => whnf) | (refine ⟨_, M.1, Nat.le_of_ble_eq_true rfl, Nat.le_of_ble_eq_true rfl, Nat.le_of_ble_eq_true rfl, ?_⟩) | (refine ⟨Nat.le_of_ble_eq_true rfl, Nat.le_of_ble_eq_true rfl, Nat.le_of_ble_eq_true rfl, ?_⟩))
      exact ⟨rfl, hQ _ _ _ M G, by decide, by decide⟩
    · replace G := m_frT G F
      rw [e] at hQ
      replace hQ : m_app _ (i_setCell S w c v d i) := hQ
      unfold i_setCell at hQ
      rw [if_pos q1] at hQ
      repeat (first | (refine hP _ _ _ _ _ _ ?_; conv => whnf) | (refine ⟨fun q => absurd q (by decide), fun _ => ?_⟩) | (refine ⟨fun _ => ?_, fun q => absurd (by decide) q⟩) | (refine ac_get M.1 ?_; conv => whnf) | (refine ⟨_, M.1, Nat.le_of_ble_eq_true rfl, Nat.le_of_ble_eq_true rfl, Nat.le_of_ble_eq_true rfl, ?_⟩) | (refine ⟨Nat.le_of_ble_eq_true rfl, Nat.le_of_ble_eq_true rfl, Nat.le_of_ble_eq_true rfl, ?_⟩))
      exact ⟨rfl, hQ _ _ _ M G, by decide, by decide⟩
    · replace G := m_frT G F
      rw [e] at hQ
      replace hQ : m_app _ (i_setCell S w c v d i) := hQ
      unfold i_setCell at hQ
      rw [if_neg (fun z => z q1), if_pos q2] at hQ
      repeat (first | (refine hP _ _ _ _ _ _ ?_; conv => whnf) | (refine ⟨fun q => absurd q (by decide), fun _ => ?_⟩) | (refine ⟨fun _ => ?_, fun q => absurd (by decide) q⟩) | (refine ac_get M.1 ?_; conv => whnf) | (refine ⟨_, M.1, Nat.le_of_ble_eq_true rfl, Nat.le_of_ble_eq_true rfl, Nat.le_of_ble_eq_true rfl, ?_⟩) | (refine ⟨Nat.le_of_ble_eq_true rfl, Nat.le_of_ble_eq_true rfl, Nat.le_of_ble_eq_true rfl, ?_⟩))
      exact ⟨rfl, hQ _ _ _ M G, by decide, by decide⟩
    · replace G := m_frT G F
      rw [e] at hQ
      replace hQ : m_app _ (i_setCell S w c v d i) := hQ
      unfold i_setCell at hQ
      rw [if_neg (fun z => z q1), if_neg q2] at hQ
      have hi := W.2.1 k i hk e
      have h24 := (W.2.2 _ hi).2.1
      have hw := (W.2.2 i hi).2.2.2.2.2.1 q1
      obtain ⟨t, ht, rfl⟩ := m_badN (by omega) q2
      rw [nI_clamp (by omega)] at hQ
      repeat (first | (refine hP _ _ _ _ _ _ ?_; conv => whnf) | (refine ⟨fun q => absurd q (by decide), fun _ => ?_⟩) | (refine ⟨fun _ => ?_, fun q => absurd (by decide) q⟩) | (refine ac_get M.1 ?_; conv => whnf) | (refine ⟨_, M.1, Nat.le_of_ble_eq_true rfl, Nat.le_of_ble_eq_true rfl, Nat.le_of_ble_eq_true rfl, ?_⟩) | (refine ⟨Nat.le_of_ble_eq_true rfl, Nat.le_of_ble_eq_true rfl, Nat.le_of_ble_eq_true rfl, ?_⟩))
      by_cases d0 : d = 0
      · rw [if_pos d0] at hQ
        refine br_t d0 ?_
        repeat (first | (refine hP _ _ _ _ _ _ ?_; conv => whnf) | (refine ⟨fun q => absurd q (by decide), fun _ => ?_⟩) | (refine ⟨fun _ => ?_, fun q => absurd (by decide) q⟩) | (refine ac_get M.1 ?_; conv => whnf) | (refine ⟨_, M.1, Nat.le_of_ble_eq_true rfl, Nat.le_of_ble_eq_true rfl, Nat.le_of_ble_eq_true rfl, ?_⟩) | (refine ⟨Nat.le_of_ble_eq_true rfl, Nat.le_of_ble_eq_true rfl, Nat.le_of_ble_eq_true rfl, ?_⟩))
        (refine r_good0 M (fun h M F => ?_); replace G := m_frT G F)
        repeat (first | (refine hP _ _ _ _ _ _ ?_; conv => whnf) | (refine ⟨fun q => absurd q (by decide), fun _ => ?_⟩) | (refine ⟨fun _ => ?_, fun q => absurd (by decide) q⟩) | (refine ac_get M.1 ?_; conv => whnf) | (refine ⟨_, M.1, Nat.le_of_ble_eq_true rfl, Nat.le_of_ble_eq_true rfl, Nat.le_of_ble_eq_true rfl, ?_⟩) | (refine ⟨Nat.le_of_ble_eq_true rfl, Nat.le_of_ble_eq_true rfl, Nat.le_of_ble_eq_true rfl, ?_⟩))
        exact ⟨rfl, hQ _ _ _ M G, by decide, by decide⟩
      · rw [if_neg d0] at hQ
        refine br_f d0 ?_
        repeat (first | (refine hP _ _ _ _ _ _ ?_; conv => whnf) | (refine ⟨fun q => absurd q (by decide), fun _ => ?_⟩) | (refine ⟨fun _ => ?_, fun q => absurd (by decide) q⟩) | (refine ac_get M.1 ?_; conv => whnf) | (refine ⟨_, M.1, Nat.le_of_ble_eq_true rfl, Nat.le_of_ble_eq_true rfl, Nat.le_of_ble_eq_true rfl, ?_⟩) | (refine ⟨Nat.le_of_ble_eq_true rfl, Nat.le_of_ble_eq_true rfl, Nat.le_of_ble_eq_true rfl, ?_⟩))
        (refine r_good1 M (fun h M F => ?_); replace G := m_frT G F)
        repeat (first | (refine hP _ _ _ _ _ _ ?_; conv => whnf) | (refine ⟨fun q => absurd q (by decide), fun _ => ?_⟩) | (refine ⟨fun _ => ?_, fun q => absurd (by decide) q⟩) | (refine ac_get M.1 ?_; conv => whnf) | (refine ⟨_, M.1, Nat.le_of_ble_eq_true rfl, Nat.le_of_ble_eq_true rfl, Nat.le_of_ble_eq_true rfl, ?_⟩) | (refine ⟨Nat.le_of_ble_eq_true rfl, Nat.le_of_ble_eq_true rfl, Nat.le_of_ble_eq_true rfl, ?_⟩))
        refine r_column M W hk e q1 ht (fun e2 h ve el M F => ?_) (fun e2 q3 h ve el M F => ?_) (fun e2 q3 h M F => ?_)
        · replace G := m_frT G F
          rw [if_pos e2] at hQ
          repeat (first | (refine hP _ _ _ _ _ _ ?_; conv => whnf) | (refine ⟨fun q => absurd q (by decide), fun _ => ?_⟩) | (refine ⟨fun _ => ?_, fun q => absurd (by decide) q⟩) | (refine ac_get M.1 ?_; conv => whnf) | (refine ⟨_, M.1, Nat.le_of_ble_eq_true rfl, Nat.le_of_ble_eq_true rfl, Nat.le_of_ble_eq_true rfl, ?_⟩) | (refine ⟨Nat.le_of_ble_eq_true rfl, Nat.le_of_ble_eq_true rfl, Nat.le_of_ble_eq_true rfl, ?_⟩))
          exact ⟨rfl, hQ _ _ _ M G, by decide, by decide⟩
        · replace G := m_frT G F
          rw [if_neg (by rw [e2]; decide), if_pos q3] at hQ
          repeat (first | (refine hP _ _ _ _ _ _ ?_; conv => whnf) | (refine ⟨fun q => absurd q (by decide), fun _ => ?_⟩) | (refine ⟨fun _ => ?_, fun q => absurd (by decide) q⟩) | (refine ac_get M.1 ?_; conv => whnf) | (refine ⟨_, M.1, Nat.le_of_ble_eq_true rfl, Nat.le_of_ble_eq_true rfl, Nat.le_of_ble_eq_true rfl, ?_⟩) | (refine ⟨Nat.le_of_ble_eq_true rfl, Nat.le_of_ble_eq_true rfl, Nat.le_of_ble_eq_true rfl, ?_⟩))
          exact ⟨rfl, hQ _ _ _ M G, by decide, by decide⟩
        · replace G := m_frT G F
          rw [if_neg (by rw [e2]; decide), if_neg q3] at hQ
          obtain ⟨u, hu, rfl⟩ := m_badN (by omega) q3
          rw [nI_clamp (by omega)] at hQ
          rw [nI_add] at M
          have hgc := m_gcell W hi q1 ht hu
          have hi5 := m_w5 W hi
          repeat (first | (refine hP _ _ _ _ _ _ ?_; conv => whnf) | (refine ⟨fun q => absurd q (by decide), fun _ => ?_⟩) | (refine ⟨fun _ => ?_, fun q => absurd (by decide) q⟩) | (refine ac_get M.1 ?_; conv => whnf) | (refine ⟨_, M.1, Nat.le_of_ble_eq_true rfl, Nat.le_of_ble_eq_true rfl, Nat.le_of_ble_eq_true rfl, ?_⟩) | (refine ⟨Nat.le_of_ble_eq_true rfl, Nat.le_of_ble_eq_true rfl, Nat.le_of_ble_eq_true rfl, ?_⟩))
          refine ⟨fun d1 => ?_, fun d1 => ?_⟩
          · repeat (first | (refine hP _ _ _ _ _ _ ?_; conv => whnf) | (refine ⟨fun q => absurd q (by decide), fun _ => ?_⟩) | (refine ⟨fun _ => ?_, fun q => absurd (by decide) q⟩) | (refine ac_get M.1 ?_; conv => whnf) | (refine ⟨_, M.1, Nat.le_of_ble_eq_true rfl, Nat.le_of_ble_eq_true rfl, Nat.le_of_ble_eq_true rfl, ?_⟩) | (refine ⟨Nat.le_of_ble_eq_true rfl, Nat.le_of_ble_eq_true rfl, Nat.le_of_ble_eq_true rfl, ?_⟩))
            refine ⟨d0, ?_⟩
            repeat (first | (refine hP _ _ _ _ _ _ ?_; conv => whnf) | (refine ⟨fun q => absurd q (by decide), fun _ => ?_⟩) | (refine ⟨fun _ => ?_, fun q => absurd (by decide) q⟩) | (refine ac_get M.1 ?_; conv => whnf) | (refine ⟨_, M.1, Nat.le_of_ble_eq_true rfl, Nat.le_of_ble_eq_true rfl, Nat.le_of_ble_eq_true rfl, ?_⟩) | (refine ⟨Nat.le_of_ble_eq_true rfl, Nat.le_of_ble_eq_true rfl, Nat.le_of_ble_eq_true rfl, ?_⟩))
            refine md_wst M (nI_24 i _) (by omega) rfl (fun h M F => ?_)
            replace G := m_frT G F
            repeat (first | (refine hP _ _ _ _ _ _ ?_; conv => whnf) | (refine ⟨fun q => absurd q (by decide), fun _ => ?_⟩) | (refine ⟨fun _ => ?_, fun q => absurd (by decide) q⟩) | (refine ac_get M.1 ?_; conv => whnf) | (refine ⟨_, M.1, Nat.le_of_ble_eq_true rfl, Nat.le_of_ble_eq_true rfl, Nat.le_of_ble_eq_true rfl, ?_⟩) | (refine ⟨Nat.le_of_ble_eq_true rfl, Nat.le_of_ble_eq_true rfl, Nat.le_of_ble_eq_true rfl, ?_⟩))
            exact ⟨rfl, hQ _ _ _ M G, by decide, by decide⟩
          · have d1' : d = -1 := Classical.byContradiction d1
            subst d1'
            repeat (first | (refine hP _ _ _ _ _ _ ?_; conv => whnf) | (refine ⟨fun q => absurd q (by decide), fun _ => ?_⟩) | (refine ⟨fun _ => ?_, fun q => absurd (by decide) q⟩) | (refine ac_get M.1 ?_; conv => whnf) | (refine ⟨_, M.1, Nat.le_of_ble_eq_true rfl, Nat.le_of_ble_eq_true rfl, Nat.le_of_ble_eq_true rfl, ?_⟩) | (refine ⟨Nat.le_of_ble_eq_true rfl, Nat.le_of_ble_eq_true rfl, Nat.le_of_ble_eq_true rfl, ?_⟩))
            refine md_wst M (nI_24 i _) (by omega) rfl (fun h M F => ?_)
            replace G := m_frT G F
            rw [i_div1] at hQ
            repeat (first | (refine hP _ _ _ _ _ _ ?_; conv => whnf) | (refine ⟨fun q => absurd q (by decide), fun _ => ?_⟩) | (refine ⟨fun _ => ?_, fun q => absurd (by decide) q⟩) | (refine ac_get M.1 ?_; conv => whnf) | (refine ⟨_, M.1, Nat.le_of_ble_eq_true rfl, Nat.le_of_ble_eq_true rfl, Nat.le_of_ble_eq_true rfl, ?_⟩) | (refine ⟨Nat.le_of_ble_eq_true rfl, Nat.le_of_ble_eq_true rfl, Nat.le_of_ble_eq_true rfl, ?_⟩))
            exact ⟨rfl, hQ _ _ _ M G, by decide, by decide⟩
theorem r_reachItem (M : m_md h mm ar S ve el co) (W : m_wf S) {k : Nat} (hk : k < 8) {ix : Int32} (h1 : m_rg S k = none → ∀ h' ve el, m_md h' mm ar S ve el 2 → m_fr mm ar h h' → Q (.inl (some (.int 0))) h')
    (h2 : ∀ i, m_rg S k = some i → ¬ m_kd S (m_gr S i) = 8 → ∀ h' ve el, m_md h' mm ar S ve el 3 → m_fr mm ar h h' → Q (.inl (some (.int 0))) h')
    (h3 : ∀ i, m_rg S k = some i → m_kd S (m_gr S i) = 8 → (m_pl S i ix).1 ≠ 7 → ∀ h' ve el, m_md h' mm ar S ve el (m_ct 0 (m_pl S i ix).1) → m_fr mm ar h h' → Q (.inl (some (.int 0))) h')
    (h4 : ∀ i, m_rg S k = some i → m_kd S (m_gr S i) = 8 → (m_pl S i ix).1 = 7 → ∀ h', m_md h' mm ar S (nI (m_gr S i)) (m_sh S i + ix) 0 → m_fr mm ar h h' → Q (.inl (some (.int 1))) h') : T_X6_reachItem [.ref mm, .int (nI k), .int ix] h Q := by
  have G : m_fr mm ar h h := m_fr0
  (intro P hP; conv => whnf)
  repeat (first | (refine hP _ _ _ _ _ _ ?_; conv => whnf) | (refine ⟨fun q => absurd q (by decide), fun _ => ?_⟩) | (refine ⟨fun _ => ?_, fun q => absurd (by decide) q⟩) | (refine ac_get M.1 ?_; conv => whnf) | (refine ⟨_, M.1, Nat.le_of_ble_eq_true rfl, Nat.le_of_ble_eq_true rfl, Nat.le_of_ble_eq_true rfl, ?_⟩) | (refine ⟨Nat.le_of_ble_eq_true rfl, Nat.le_of_ble_eq_true rfl, Nat.le_of_ble_eq_true rfl, ?_⟩))
  refine md_rg M rfl hk ?_
  cases e : m_rg S k with
  | none =>
    repeat (first | (refine hP _ _ _ _ _ _ ?_; conv => whnf) | (refine ⟨fun q => absurd q (by decide), fun _ => ?_⟩) | (refine ⟨fun _ => ?_, fun q => absurd (by decide) q⟩) | (refine ac_get M.1 ?_; conv => whnf) | (refine ⟨_, M.1, Nat.le_of_ble_eq_true rfl, Nat.le_of_ble_eq_true rfl, Nat.le_of_ble_eq_true rfl, ?_⟩) | (refine ⟨Nat.le_of_ble_eq_true rfl, Nat.le_of_ble_eq_true rfl, Nat.le_of_ble_eq_true rfl, ?_⟩))
    (refine r_good0 M (fun h M F => ?_); replace G := m_frT G F)
    repeat (first | (refine hP _ _ _ _ _ _ ?_; conv => whnf) | (refine ⟨fun q => absurd q (by decide), fun _ => ?_⟩) | (refine ⟨fun _ => ?_, fun q => absurd (by decide) q⟩) | (refine ac_get M.1 ?_; conv => whnf) | (refine ⟨_, M.1, Nat.le_of_ble_eq_true rfl, Nat.le_of_ble_eq_true rfl, Nat.le_of_ble_eq_true rfl, ?_⟩) | (refine ⟨Nat.le_of_ble_eq_true rfl, Nat.le_of_ble_eq_true rfl, Nat.le_of_ble_eq_true rfl, ?_⟩))
    exact ⟨rfl, Or.inl rfl, h1 e _ _ _ M G, by decide, by decide⟩
  | some i =>
    have hi := W.2.1 k i hk e
    have hi5 := m_w5 W hi
    repeat (first | (refine hP _ _ _ _ _ _ ?_; conv => whnf) | (refine ⟨fun q => absurd q (by decide), fun _ => ?_⟩) | (refine ⟨fun _ => ?_, fun q => absurd (by decide) q⟩) | (refine ac_get M.1 ?_; conv => whnf) | (refine ⟨_, M.1, Nat.le_of_ble_eq_true rfl, Nat.le_of_ble_eq_true rfl, Nat.le_of_ble_eq_true rfl, ?_⟩) | (refine ⟨Nat.le_of_ble_eq_true rfl, Nat.le_of_ble_eq_true rfl, Nat.le_of_ble_eq_true rfl, ?_⟩))
    refine br_f (m_rvS hi5) ?_
    repeat (first | (refine hP _ _ _ _ _ _ ?_; conv => whnf) | (refine ⟨fun q => absurd q (by decide), fun _ => ?_⟩) | (refine ⟨fun _ => ?_, fun q => absurd (by decide) q⟩) | (refine ac_get M.1 ?_; conv => whnf) | (refine ⟨_, M.1, Nat.le_of_ble_eq_true rfl, Nat.le_of_ble_eq_true rfl, Nat.le_of_ble_eq_true rfl, ?_⟩) | (refine ⟨Nat.le_of_ble_eq_true rfl, Nat.le_of_ble_eq_true rfl, Nat.le_of_ble_eq_true rfl, ?_⟩))
    (refine r_good1 M (fun h M F => ?_); replace G := m_frT G F)
    repeat (first | (refine hP _ _ _ _ _ _ ?_; conv => whnf) | (refine ⟨fun q => absurd q (by decide), fun _ => ?_⟩) | (refine ⟨fun _ => ?_, fun q => absurd (by decide) q⟩) | (refine ac_get M.1 ?_; conv => whnf) | (refine ⟨_, M.1, Nat.le_of_ble_eq_true rfl, Nat.le_of_ble_eq_true rfl, Nat.le_of_ble_eq_true rfl, ?_⟩) | (refine ⟨Nat.le_of_ble_eq_true rfl, Nat.le_of_ble_eq_true rfl, Nat.le_of_ble_eq_true rfl, ?_⟩))
    refine r_sort M W hi ?_
    repeat (first | (refine hP _ _ _ _ _ _ ?_; conv => whnf) | (refine ⟨fun q => absurd q (by decide), fun _ => ?_⟩) | (refine ⟨fun _ => ?_, fun q => absurd (by decide) q⟩) | (refine ac_get M.1 ?_; conv => whnf) | (refine ⟨_, M.1, Nat.le_of_ble_eq_true rfl, Nat.le_of_ble_eq_true rfl, Nat.le_of_ble_eq_true rfl, ?_⟩) | (refine ⟨Nat.le_of_ble_eq_true rfl, Nat.le_of_ble_eq_true rfl, Nat.le_of_ble_eq_true rfl, ?_⟩))
    have hkd := (W.2.2 i hi).2.2.2.2.1
    by_cases q : m_kd S (m_gr S i) = 8
    · refine br_f (fun z => z (by rw [q]; rfl)) ?_
      repeat (first | (refine hP _ _ _ _ _ _ ?_; conv => whnf) | (refine ⟨fun q => absurd q (by decide), fun _ => ?_⟩) | (refine ⟨fun _ => ?_, fun q => absurd (by decide) q⟩) | (refine ac_get M.1 ?_; conv => whnf) | (refine ⟨_, M.1, Nat.le_of_ble_eq_true rfl, Nat.le_of_ble_eq_true rfl, Nat.le_of_ble_eq_true rfl, ?_⟩) | (refine ⟨Nat.le_of_ble_eq_true rfl, Nat.le_of_ble_eq_true rfl, Nat.le_of_ble_eq_true rfl, ?_⟩))
      (refine r_good1 M (fun h M F => ?_); replace G := m_frT G F)
      repeat (first | (refine hP _ _ _ _ _ _ ?_; conv => whnf) | (refine ⟨fun q => absurd q (by decide), fun _ => ?_⟩) | (refine ⟨fun _ => ?_, fun q => absurd (by decide) q⟩) | (refine ac_get M.1 ?_; conv => whnf) | (refine ⟨_, M.1, Nat.le_of_ble_eq_true rfl, Nat.le_of_ble_eq_true rfl, Nat.le_of_ble_eq_true rfl, ?_⟩) | (refine ⟨Nat.le_of_ble_eq_true rfl, Nat.le_of_ble_eq_true rfl, Nat.le_of_ble_eq_true rfl, ?_⟩))
      refine r_find M W hi (fun h M F => ?_)
      replace G := m_frT G F
      repeat (first | (refine hP _ _ _ _ _ _ ?_; conv => whnf) | (refine ⟨fun q => absurd q (by decide), fun _ => ?_⟩) | (refine ⟨fun _ => ?_, fun q => absurd (by decide) q⟩) | (refine ac_get M.1 ?_; conv => whnf) | (refine ⟨_, M.1, Nat.le_of_ble_eq_true rfl, Nat.le_of_ble_eq_true rfl, Nat.le_of_ble_eq_true rfl, ?_⟩) | (refine ⟨Nat.le_of_ble_eq_true rfl, Nat.le_of_ble_eq_true rfl, Nat.le_of_ble_eq_true rfl, ?_⟩))
      refine md_wco M (fun h M F => ?_)
      replace G := m_frT G F
      repeat (first | (refine hP _ _ _ _ _ _ ?_; conv => whnf) | (refine ⟨fun q => absurd q (by decide), fun _ => ?_⟩) | (refine ⟨fun _ => ?_, fun q => absurd (by decide) q⟩) | (refine ac_get M.1 ?_; conv => whnf) | (refine ⟨_, M.1, Nat.le_of_ble_eq_true rfl, Nat.le_of_ble_eq_true rfl, Nat.le_of_ble_eq_true rfl, ?_⟩) | (refine ⟨Nat.le_of_ble_eq_true rfl, Nat.le_of_ble_eq_true rfl, Nat.le_of_ble_eq_true rfl, ?_⟩))
      by_cases q2 : (m_pl S i ix).1 = 7
      · have := h4 i e q q2 _ (by rw [q2] at M; exact M) G
        rw [q2]
        repeat (first | (refine hP _ _ _ _ _ _ ?_; conv => whnf) | (refine ⟨fun q => absurd q (by decide), fun _ => ?_⟩) | (refine ⟨fun _ => ?_, fun q => absurd (by decide) q⟩) | (refine ac_get M.1 ?_; conv => whnf) | (refine ⟨_, M.1, Nat.le_of_ble_eq_true rfl, Nat.le_of_ble_eq_true rfl, Nat.le_of_ble_eq_true rfl, ?_⟩) | (refine ⟨Nat.le_of_ble_eq_true rfl, Nat.le_of_ble_eq_true rfl, Nat.le_of_ble_eq_true rfl, ?_⟩))
        exact ⟨rfl, Or.inr rfl, this, by decide, by decide⟩
      · have := h3 i e q q2 _ _ _ M G
        refine br_t ?_ ?_
        · rcases m_pl3 (S := S) (i := i) (ix := ix) with z | z | z
          · rw [z]; decide
          · rw [z]; decide
          · exact absurd z q2
        · repeat (first | (refine hP _ _ _ _ _ _ ?_; conv => whnf) | (refine ⟨fun q => absurd q (by decide), fun _ => ?_⟩) | (refine ⟨fun _ => ?_, fun q => absurd (by decide) q⟩) | (refine ac_get M.1 ?_; conv => whnf) | (refine ⟨_, M.1, Nat.le_of_ble_eq_true rfl, Nat.le_of_ble_eq_true rfl, Nat.le_of_ble_eq_true rfl, ?_⟩) | (refine ⟨Nat.le_of_ble_eq_true rfl, Nat.le_of_ble_eq_true rfl, Nat.le_of_ble_eq_true rfl, ?_⟩))
          exact ⟨rfl, Or.inl rfl, this, by decide, by decide⟩
    · refine br_t (nI_ne (b := 8) q (by omega) (by decide)) ?_
      repeat (first | (refine hP _ _ _ _ _ _ ?_; conv => whnf) | (refine ⟨fun q => absurd q (by decide), fun _ => ?_⟩) | (refine ⟨fun _ => ?_, fun q => absurd (by decide) q⟩) | (refine ac_get M.1 ?_; conv => whnf) | (refine ⟨_, M.1, Nat.le_of_ble_eq_true rfl, Nat.le_of_ble_eq_true rfl, Nat.le_of_ble_eq_true rfl, ?_⟩) | (refine ⟨Nat.le_of_ble_eq_true rfl, Nat.le_of_ble_eq_true rfl, Nat.le_of_ble_eq_true rfl, ?_⟩))
      (refine r_good0 M (fun h M F => ?_); replace G := m_frT G F)
      repeat (first | (refine hP _ _ _ _ _ _ ?_; conv => whnf) | (refine ⟨fun q => absurd q (by decide), fun _ => ?_⟩) | (refine ⟨fun _ => ?_, fun q => absurd (by decide) q⟩) | (refine ac_get M.1 ?_; conv => whnf) | (refine ⟨_, M.1, Nat.le_of_ble_eq_true rfl, Nat.le_of_ble_eq_true rfl, Nat.le_of_ble_eq_true rfl, ?_⟩) | (refine ⟨Nat.le_of_ble_eq_true rfl, Nat.le_of_ble_eq_true rfl, Nat.le_of_ble_eq_true rfl, ?_⟩))
      exact ⟨rfl, Or.inl rfl, h2 i e q _ _ _ M G, by decide, by decide⟩
theorem R_refer (M : m_md h mm ar S ve el co) (W : m_wf S) {r ix f : Int32} (hQ : m_app (fun x _ S' => ∀ h' ve el, m_md h' mm ar S' ve el (m_ct 0 x) → m_fr mm ar h h' → Q (.inl none) h') (f_refer S r ix f)) : T_X6_refer [.ref mm, .int r, .int ix, .int f] h Q := by
  have G : m_fr mm ar h h := m_fr0
  unfold f_refer at hQ
  (intro P hP; conv => whnf)
  repeat (first | (refine hP _ _ _ _ _ _ ?_; conv => whnf) | (refine ⟨fun q => absurd q (by decide), fun _ => ?_⟩) | (refine ⟨fun _ => ?_, fun q => absurd (by decide) q⟩) | (refine ac_get M.1 ?_; conv => whnf) | (refine ⟨_, M.1, Nat.le_of_ble_eq_true rfl, Nat.le_of_ble_eq_true rfl, Nat.le_of_ble_eq_true rfl, ?_⟩) | (refine ⟨Nat.le_of_ble_eq_true rfl, Nat.le_of_ble_eq_true rfl, Nat.le_of_ble_eq_true rfl, ?_⟩))
  refine r_known M (fun q h M F => ?_) (fun q h M F => ?_)
  · replace G := m_frT G F
    rw [if_pos q] at hQ
    repeat (first | (refine hP _ _ _ _ _ _ ?_; conv => whnf) | (refine ⟨fun q => absurd q (by decide), fun _ => ?_⟩) | (refine ⟨fun _ => ?_, fun q => absurd (by decide) q⟩) | (refine ac_get M.1 ?_; conv => whnf) | (refine ⟨_, M.1, Nat.le_of_ble_eq_true rfl, Nat.le_of_ble_eq_true rfl, Nat.le_of_ble_eq_true rfl, ?_⟩) | (refine ⟨Nat.le_of_ble_eq_true rfl, Nat.le_of_ble_eq_true rfl, Nat.le_of_ble_eq_true rfl, ?_⟩))
    exact ⟨rfl, hQ _ _ _ M G, by decide, by decide⟩
  · replace G := m_frT G F
    rw [if_neg q] at hQ
    obtain ⟨k, hk, rfl⟩ := m_badN (by decide) (fun z => q (Or.inl z))
    obtain ⟨t, ht, rfl⟩ := m_badN (by decide) (fun z => q (Or.inr z))
    rw [nI_clamp (by omega), nI_clamp (by omega)] at hQ
    repeat (first | (refine hP _ _ _ _ _ _ ?_; conv => whnf) | (refine ⟨fun q => absurd q (by decide), fun _ => ?_⟩) | (refine ⟨fun _ => ?_, fun q => absurd (by decide) q⟩) | (refine ac_get M.1 ?_; conv => whnf) | (refine ⟨_, M.1, Nat.le_of_ble_eq_true rfl, Nat.le_of_ble_eq_true rfl, Nat.le_of_ble_eq_true rfl, ?_⟩) | (refine ⟨Nat.le_of_ble_eq_true rfl, Nat.le_of_ble_eq_true rfl, Nat.le_of_ble_eq_true rfl, ?_⟩))
    refine r_reachItem M W hk (fun e h ve el M F => ?_) (fun i e q1 h ve el M F => ?_) (fun i e q1 q2 h ve el M F => ?_) (fun i e q1 q2 h M F => ?_)
    · replace G := m_frT G F
      rw [e] at hQ
      repeat (first | (refine hP _ _ _ _ _ _ ?_; conv => whnf) | (refine ⟨fun q => absurd q (by decide), fun _ => ?_⟩) | (refine ⟨fun _ => ?_, fun q => absurd (by decide) q⟩) | (refine ac_get M.1 ?_; conv => whnf) | (refine ⟨_, M.1, Nat.le_of_ble_eq_true rfl, Nat.le_of_ble_eq_true rfl, Nat.le_of_ble_eq_true rfl, ?_⟩) | (refine ⟨Nat.le_of_ble_eq_true rfl, Nat.le_of_ble_eq_true rfl, Nat.le_of_ble_eq_true rfl, ?_⟩))
      exact ⟨rfl, hQ _ _ _ M G, by decide, by decide⟩
    · replace G := m_frT G F
      rw [e] at hQ
      replace hQ : m_app _ (i_refer S ix t i) := hQ
      unfold i_refer at hQ
      rw [if_pos q1] at hQ
      repeat (first | (refine hP _ _ _ _ _ _ ?_; conv => whnf) | (refine ⟨fun q => absurd q (by decide), fun _ => ?_⟩) | (refine ⟨fun _ => ?_, fun q => absurd (by decide) q⟩) | (refine ac_get M.1 ?_; conv => whnf) | (refine ⟨_, M.1, Nat.le_of_ble_eq_true rfl, Nat.le_of_ble_eq_true rfl, Nat.le_of_ble_eq_true rfl, ?_⟩) | (refine ⟨Nat.le_of_ble_eq_true rfl, Nat.le_of_ble_eq_true rfl, Nat.le_of_ble_eq_true rfl, ?_⟩))
      exact ⟨rfl, hQ _ _ _ M G, by decide, by decide⟩
    · replace G := m_frT G F
      rw [e] at hQ
      replace hQ : m_app _ (i_refer S ix t i) := hQ
      unfold i_refer at hQ
      rw [if_neg (fun z => z q1), if_neg q2] at hQ
      repeat (first | (refine hP _ _ _ _ _ _ ?_; conv => whnf) | (refine ⟨fun q => absurd q (by decide), fun _ => ?_⟩) | (refine ⟨fun _ => ?_, fun q => absurd (by decide) q⟩) | (refine ac_get M.1 ?_; conv => whnf) | (refine ⟨_, M.1, Nat.le_of_ble_eq_true rfl, Nat.le_of_ble_eq_true rfl, Nat.le_of_ble_eq_true rfl, ?_⟩) | (refine ⟨Nat.le_of_ble_eq_true rfl, Nat.le_of_ble_eq_true rfl, Nat.le_of_ble_eq_true rfl, ?_⟩))
      exact ⟨rfl, hQ _ _ _ M G, by decide, by decide⟩
    · replace G := m_frT G F
      rw [e] at hQ
      replace hQ : m_app _ (i_refer S ix t i) := hQ
      unfold i_refer at hQ
      rw [if_neg (fun z => z q1), if_pos q2] at hQ
      have hi := W.2.1 k i hk e
      have hg := m_wg W hi
      obtain ⟨p1, p2, p3⟩ := m_pl7 W hi q2
      have h24 := (W.2.2 _ hg).2.1
      have hg5 := m_w5 W hg
      rw [p3] at M
      repeat (first | (refine hP _ _ _ _ _ _ ?_; conv => whnf) | (refine ⟨fun q => absurd q (by decide), fun _ => ?_⟩) | (refine ⟨fun _ => ?_, fun q => absurd (by decide) q⟩) | (refine ac_get M.1 ?_; conv => whnf) | (refine ⟨_, M.1, Nat.le_of_ble_eq_true rfl, Nat.le_of_ble_eq_true rfl, Nat.le_of_ble_eq_true rfl, ?_⟩) | (refine ⟨Nat.le_of_ble_eq_true rfl, Nat.le_of_ble_eq_true rfl, Nat.le_of_ble_eq_true rfl, ?_⟩))
      refine md_rg M rfl ht ?_
      repeat (first | (refine hP _ _ _ _ _ _ ?_; conv => whnf) | (refine ⟨fun q => absurd q (by decide), fun _ => ?_⟩) | (refine ⟨fun _ => ?_, fun q => absurd (by decide) q⟩) | (refine ac_get M.1 ?_; conv => whnf) | (refine ⟨_, M.1, Nat.le_of_ble_eq_true rfl, Nat.le_of_ble_eq_true rfl, Nat.le_of_ble_eq_true rfl, ?_⟩) | (refine ⟨Nat.le_of_ble_eq_true rfl, Nat.le_of_ble_eq_true rfl, Nat.le_of_ble_eq_true rfl, ?_⟩))
      refine md_wst M (nI_24 _ _) (by omega) (m_rv64 (m_wr W ht)) (fun h M F => ?_)
      replace G := m_frT G F
      repeat (first | (refine hP _ _ _ _ _ _ ?_; conv => whnf) | (refine ⟨fun q => absurd q (by decide), fun _ => ?_⟩) | (refine ⟨fun _ => ?_, fun q => absurd (by decide) q⟩) | (refine ac_get M.1 ?_; conv => whnf) | (refine ⟨_, M.1, Nat.le_of_ble_eq_true rfl, Nat.le_of_ble_eq_true rfl, Nat.le_of_ble_eq_true rfl, ?_⟩) | (refine ⟨Nat.le_of_ble_eq_true rfl, Nat.le_of_ble_eq_true rfl, Nat.le_of_ble_eq_true rfl, ?_⟩))
      exact ⟨rfl, hQ _ _ _ M G, by decide, by decide⟩
theorem wf_srg (W : m_wf S) {k : Nat} {o : Option Nat} (ho : ∀ j, o = some j → j < m_mk S) : m_wf (m_srg S k o) := by
  refine ⟨W.1, fun r i hr e => ?_, fun i hi => ?_⟩
  · by_cases c : r = k
    · subst c
      exact ho i ((va_upE (f := m_rg S) (v := o)).symm.trans e)
    · exact W.2.1 r i hr ((va_upN (f := m_rg S) (v := o) c).symm.trans e)
  · obtain ⟨w1, w2, w3, w4, w5, w6, w7, w8, w9, w10⟩ := W.2.2 i hi
    exact ⟨w1, w2, w3, w4, w5, w6, w7, w8, w9, w10⟩
theorem m_lk32 {x : Int64} (L : m_lk S x) : x.toInt32 = m_rv (m_dl x) := (congrArg Int64.toInt32 L.1).trans (m_lv32 _)
theorem R_fetch (M : m_md h mm ar S ve el co) (W : m_wf S) {t r ix : Int32} (hQ : m_app (fun x a S' => ∀ h' ve el, m_md h' mm ar S' ve el (m_ct 0 x) → m_fr mm ar h h' → Q (.inl (some (.int a))) h') (f_fetch S t r ix)) : T_X6_fetch [.ref mm, .int t, .int r, .int ix] h Q := by
  have G : m_fr mm ar h h := m_fr0
  unfold f_fetch at hQ
  (intro P hP; conv => whnf)
  repeat (first | (refine hP _ _ _ _ _ _ ?_; conv => whnf) | (refine ⟨fun q => absurd q (by decide), fun _ => ?_⟩) | (refine ⟨fun _ => ?_, fun q => absurd (by decide) q⟩) | (refine ac_get M.1 ?_; conv => whnf) | (refine ⟨_, M.1, Nat.le_of_ble_eq_true rfl, Nat.le_of_ble_eq_true rfl, Nat.le_of_ble_eq_true rfl, ?_⟩) | (refine ⟨Nat.le_of_ble_eq_true rfl, Nat.le_of_ble_eq_true rfl, Nat.le_of_ble_eq_true rfl, ?_⟩))
  refine r_known M (fun q h M F => ?_) (fun q h M F => ?_)
  · replace G := m_frT G F
    rw [if_pos q] at hQ
    repeat (first | (refine hP _ _ _ _ _ _ ?_; conv => whnf) | (refine ⟨fun q => absurd q (by decide), fun _ => ?_⟩) | (refine ⟨fun _ => ?_, fun q => absurd (by decide) q⟩) | (refine ac_get M.1 ?_; conv => whnf) | (refine ⟨_, M.1, Nat.le_of_ble_eq_true rfl, Nat.le_of_ble_eq_true rfl, Nat.le_of_ble_eq_true rfl, ?_⟩) | (refine ⟨Nat.le_of_ble_eq_true rfl, Nat.le_of_ble_eq_true rfl, Nat.le_of_ble_eq_true rfl, ?_⟩))
    exact ⟨rfl, hQ _ _ _ M G, by decide, by decide⟩
  · replace G := m_frT G F
    rw [if_neg q] at hQ
    obtain ⟨t, ht, rfl⟩ := m_badN (by decide) (fun z => q (Or.inl z))
    obtain ⟨k, hk, rfl⟩ := m_badN (by decide) (fun z => q (Or.inr z))
    rw [nI_clamp (by omega), nI_clamp (by omega)] at hQ
    repeat (first | (refine hP _ _ _ _ _ _ ?_; conv => whnf) | (refine ⟨fun q => absurd q (by decide), fun _ => ?_⟩) | (refine ⟨fun _ => ?_, fun q => absurd (by decide) q⟩) | (refine ac_get M.1 ?_; conv => whnf) | (refine ⟨_, M.1, Nat.le_of_ble_eq_true rfl, Nat.le_of_ble_eq_true rfl, Nat.le_of_ble_eq_true rfl, ?_⟩) | (refine ⟨Nat.le_of_ble_eq_true rfl, Nat.le_of_ble_eq_true rfl, Nat.le_of_ble_eq_true rfl, ?_⟩))
    refine r_reachItem M W hk (fun e h ve el M F => ?_) (fun i e q1 h ve el M F => ?_) (fun i e q1 q2 h ve el M F => ?_) (fun i e q1 q2 h M F => ?_)
    · replace G := m_frT G F
      rw [e] at hQ
      repeat (first | (refine hP _ _ _ _ _ _ ?_; conv => whnf) | (refine ⟨fun q => absurd q (by decide), fun _ => ?_⟩) | (refine ⟨fun _ => ?_, fun q => absurd (by decide) q⟩) | (refine ac_get M.1 ?_; conv => whnf) | (refine ⟨_, M.1, Nat.le_of_ble_eq_true rfl, Nat.le_of_ble_eq_true rfl, Nat.le_of_ble_eq_true rfl, ?_⟩) | (refine ⟨Nat.le_of_ble_eq_true rfl, Nat.le_of_ble_eq_true rfl, Nat.le_of_ble_eq_true rfl, ?_⟩))
      exact ⟨rfl, hQ _ _ _ M G, by decide, by decide⟩
    · replace G := m_frT G F
      rw [e] at hQ
      replace hQ : m_app _ (i_fetch S t ix i) := hQ
      unfold i_fetch at hQ
      rw [if_pos q1] at hQ
      repeat (first | (refine hP _ _ _ _ _ _ ?_; conv => whnf) | (refine ⟨fun q => absurd q (by decide), fun _ => ?_⟩) | (refine ⟨fun _ => ?_, fun q => absurd (by decide) q⟩) | (refine ac_get M.1 ?_; conv => whnf) | (refine ⟨_, M.1, Nat.le_of_ble_eq_true rfl, Nat.le_of_ble_eq_true rfl, Nat.le_of_ble_eq_true rfl, ?_⟩) | (refine ⟨Nat.le_of_ble_eq_true rfl, Nat.le_of_ble_eq_true rfl, Nat.le_of_ble_eq_true rfl, ?_⟩))
      exact ⟨rfl, hQ _ _ _ M G, by decide, by decide⟩
    · replace G := m_frT G F
      rw [e] at hQ
      replace hQ : m_app _ (i_fetch S t ix i) := hQ
      unfold i_fetch at hQ
      rw [if_neg (fun z => z q1), if_neg q2] at hQ
      repeat (first | (refine hP _ _ _ _ _ _ ?_; conv => whnf) | (refine ⟨fun q => absurd q (by decide), fun _ => ?_⟩) | (refine ⟨fun _ => ?_, fun q => absurd (by decide) q⟩) | (refine ac_get M.1 ?_; conv => whnf) | (refine ⟨_, M.1, Nat.le_of_ble_eq_true rfl, Nat.le_of_ble_eq_true rfl, Nat.le_of_ble_eq_true rfl, ?_⟩) | (refine ⟨Nat.le_of_ble_eq_true rfl, Nat.le_of_ble_eq_true rfl, Nat.le_of_ble_eq_true rfl, ?_⟩))
      exact ⟨rfl, hQ _ _ _ M G, by decide, by decide⟩
    · replace G := m_frT G F
      rw [e] at hQ
      replace hQ : m_app _ (i_fetch S t ix i) := hQ
      unfold i_fetch at hQ
      rw [if_neg (fun z => z q1), if_pos q2] at hQ
      have hi := W.2.1 k i hk e
      have hg := m_wg W hi
      obtain ⟨p1, p2, p3⟩ := m_pl7 W hi q2
      have h24 := (W.2.2 _ hg).2.1
      have hg5 := m_w5 W hg
      rw [p3] at M
      have hL := (W.2.2 _ hg).2.2.2.2.2.2.1 q1 _ (show (m_pl S i ix).2 < 24 by omega)
      repeat (first | (refine hP _ _ _ _ _ _ ?_; conv => whnf) | (refine ⟨fun q => absurd q (by decide), fun _ => ?_⟩) | (refine ⟨fun _ => ?_, fun q => absurd (by decide) q⟩) | (refine ac_get M.1 ?_; conv => whnf) | (refine ⟨_, M.1, Nat.le_of_ble_eq_true rfl, Nat.le_of_ble_eq_true rfl, Nat.le_of_ble_eq_true rfl, ?_⟩) | (refine ⟨Nat.le_of_ble_eq_true rfl, Nat.le_of_ble_eq_true rfl, Nat.le_of_ble_eq_true rfl, ?_⟩))
      refine r_here M hg5 (by omega) ?_
      repeat (first | (refine hP _ _ _ _ _ _ ?_; conv => whnf) | (refine ⟨fun q => absurd q (by decide), fun _ => ?_⟩) | (refine ⟨fun _ => ?_, fun q => absurd (by decide) q⟩) | (refine ac_get M.1 ?_; conv => whnf) | (refine ⟨_, M.1, Nat.le_of_ble_eq_true rfl, Nat.le_of_ble_eq_true rfl, Nat.le_of_ble_eq_true rfl, ?_⟩) | (refine ⟨Nat.le_of_ble_eq_true rfl, Nat.le_of_ble_eq_true rfl, Nat.le_of_ble_eq_true rfl, ?_⟩))
      revert hQ
      rw [m_lk32 hL]
      have hb := hL.2
      generalize m_dl (m_st S (24 * m_gr S i + (m_pl S i ix).2)) = o at hb ⊢
      intro hQ
      refine md_wrg M (o := o) rfl ht rfl (fun h M F => ?_)
      replace G := m_frT G F
      cases o with
      | none =>
        repeat (first | (refine hP _ _ _ _ _ _ ?_; conv => whnf) | (refine ⟨fun q => absurd q (by decide), fun _ => ?_⟩) | (refine ⟨fun _ => ?_, fun q => absurd (by decide) q⟩) | (refine ac_get M.1 ?_; conv => whnf) | (refine ⟨_, M.1, Nat.le_of_ble_eq_true rfl, Nat.le_of_ble_eq_true rfl, Nat.le_of_ble_eq_true rfl, ?_⟩) | (refine ⟨Nat.le_of_ble_eq_true rfl, Nat.le_of_ble_eq_true rfl, Nat.le_of_ble_eq_true rfl, ?_⟩))
        exact ⟨rfl, hQ _ _ _ M G, by decide, by decide⟩
      | some j =>
        have hj := hb j rfl
        repeat (first | (refine hP _ _ _ _ _ _ ?_; conv => whnf) | (refine ⟨fun q => absurd q (by decide), fun _ => ?_⟩) | (refine ⟨fun _ => ?_, fun q => absurd (by decide) q⟩) | (refine ac_get M.1 ?_; conv => whnf) | (refine ⟨_, M.1, Nat.le_of_ble_eq_true rfl, Nat.le_of_ble_eq_true rfl, Nat.le_of_ble_eq_true rfl, ?_⟩) | (refine ⟨Nat.le_of_ble_eq_true rfl, Nat.le_of_ble_eq_true rfl, Nat.le_of_ble_eq_true rfl, ?_⟩))
        refine br_t (nI_pos' (by have := m_w5 W hj; omega)) ?_
        repeat (first | (refine hP _ _ _ _ _ _ ?_; conv => whnf) | (refine ⟨fun q => absurd q (by decide), fun _ => ?_⟩) | (refine ⟨fun _ => ?_, fun q => absurd (by decide) q⟩) | (refine ac_get M.1 ?_; conv => whnf) | (refine ⟨_, M.1, Nat.le_of_ble_eq_true rfl, Nat.le_of_ble_eq_true rfl, Nat.le_of_ble_eq_true rfl, ?_⟩) | (refine ⟨Nat.le_of_ble_eq_true rfl, Nat.le_of_ble_eq_true rfl, Nat.le_of_ble_eq_true rfl, ?_⟩))
        refine r_sort M (wf_srg W hb) hj ?_
        repeat (first | (refine hP _ _ _ _ _ _ ?_; conv => whnf) | (refine ⟨fun q => absurd q (by decide), fun _ => ?_⟩) | (refine ⟨fun _ => ?_, fun q => absurd (by decide) q⟩) | (refine ac_get M.1 ?_; conv => whnf) | (refine ⟨_, M.1, Nat.le_of_ble_eq_true rfl, Nat.le_of_ble_eq_true rfl, Nat.le_of_ble_eq_true rfl, ?_⟩) | (refine ⟨Nat.le_of_ble_eq_true rfl, Nat.le_of_ble_eq_true rfl, Nat.le_of_ble_eq_true rfl, ?_⟩))
        exact ⟨rfl, hQ _ _ _ M G, by decide, by decide⟩
theorem r_isRecord (M : m_md h mm ar S ve el co) (W : m_wf S) {k : Nat} (hk : k < 8) (h1 : m_rg S k = none → ∀ h' ve el, m_md h' mm ar S ve el 3 → m_fr mm ar h h' → Q (.inl (some (.int 0))) h')
    (h2 : ∀ i, m_rg S k = some i → ¬ m_kd S i = 10 → ∀ h' ve el, m_md h' mm ar S ve el 2 → m_fr mm ar h h' → Q (.inl (some (.int 0))) h')
    (h3 : ∀ i, m_rg S k = some i → m_kd S i = 10 → ∀ h' ve el, m_md h' mm ar S ve el 0 → m_fr mm ar h h' → Q (.inl (some (.int 1))) h') : T_X6_isRecord [.ref mm, .int (nI k)] h Q := by
  have G : m_fr mm ar h h := m_fr0
  (intro P hP; conv => whnf)
  repeat (first | (refine hP _ _ _ _ _ _ ?_; conv => whnf) | (refine ⟨fun q => absurd q (by decide), fun _ => ?_⟩) | (refine ⟨fun _ => ?_, fun q => absurd (by decide) q⟩) | (refine ac_get M.1 ?_; conv => whnf) | (refine ⟨_, M.1, Nat.le_of_ble_eq_true rfl, Nat.le_of_ble_eq_true rfl, Nat.le_of_ble_eq_true rfl, ?_⟩) | (refine ⟨Nat.le_of_ble_eq_true rfl, Nat.le_of_ble_eq_true rfl, Nat.le_of_ble_eq_true rfl, ?_⟩))
  refine md_rg M rfl hk ?_
  cases e : m_rg S k with
  | none =>
    repeat (first | (refine hP _ _ _ _ _ _ ?_; conv => whnf) | (refine ⟨fun q => absurd q (by decide), fun _ => ?_⟩) | (refine ⟨fun _ => ?_, fun q => absurd (by decide) q⟩) | (refine ac_get M.1 ?_; conv => whnf) | (refine ⟨_, M.1, Nat.le_of_ble_eq_true rfl, Nat.le_of_ble_eq_true rfl, Nat.le_of_ble_eq_true rfl, ?_⟩) | (refine ⟨Nat.le_of_ble_eq_true rfl, Nat.le_of_ble_eq_true rfl, Nat.le_of_ble_eq_true rfl, ?_⟩))
    (refine r_good1 M (fun h M F => ?_); replace G := m_frT G F)
    repeat (first | (refine hP _ _ _ _ _ _ ?_; conv => whnf) | (refine ⟨fun q => absurd q (by decide), fun _ => ?_⟩) | (refine ⟨fun _ => ?_, fun q => absurd (by decide) q⟩) | (refine ac_get M.1 ?_; conv => whnf) | (refine ⟨_, M.1, Nat.le_of_ble_eq_true rfl, Nat.le_of_ble_eq_true rfl, Nat.le_of_ble_eq_true rfl, ?_⟩) | (refine ⟨Nat.le_of_ble_eq_true rfl, Nat.le_of_ble_eq_true rfl, Nat.le_of_ble_eq_true rfl, ?_⟩))
    (refine r_good0 M (fun h M F => ?_); replace G := m_frT G F)
    repeat (first | (refine hP _ _ _ _ _ _ ?_; conv => whnf) | (refine ⟨fun q => absurd q (by decide), fun _ => ?_⟩) | (refine ⟨fun _ => ?_, fun q => absurd (by decide) q⟩) | (refine ac_get M.1 ?_; conv => whnf) | (refine ⟨_, M.1, Nat.le_of_ble_eq_true rfl, Nat.le_of_ble_eq_true rfl, Nat.le_of_ble_eq_true rfl, ?_⟩) | (refine ⟨Nat.le_of_ble_eq_true rfl, Nat.le_of_ble_eq_true rfl, Nat.le_of_ble_eq_true rfl, ?_⟩))
    exact ⟨rfl, Or.inl rfl, h1 e _ _ _ M G, by decide, by decide⟩
  | some i =>
    have hi := W.2.1 k i hk e
    have hi5 := m_w5 W hi
    obtain ⟨w1, w2, w3, w4, w5, w6, w7, w8, w9, w10⟩ := W.2.2 i hi
    repeat (first | (refine hP _ _ _ _ _ _ ?_; conv => whnf) | (refine ⟨fun q => absurd q (by decide), fun _ => ?_⟩) | (refine ⟨fun _ => ?_, fun q => absurd (by decide) q⟩) | (refine ac_get M.1 ?_; conv => whnf) | (refine ⟨_, M.1, Nat.le_of_ble_eq_true rfl, Nat.le_of_ble_eq_true rfl, Nat.le_of_ble_eq_true rfl, ?_⟩) | (refine ⟨Nat.le_of_ble_eq_true rfl, Nat.le_of_ble_eq_true rfl, Nat.le_of_ble_eq_true rfl, ?_⟩))
    refine br_f (m_rvS hi5) ?_
    repeat (first | (refine hP _ _ _ _ _ _ ?_; conv => whnf) | (refine ⟨fun q => absurd q (by decide), fun _ => ?_⟩) | (refine ⟨fun _ => ?_, fun q => absurd (by decide) q⟩) | (refine ac_get M.1 ?_; conv => whnf) | (refine ⟨_, M.1, Nat.le_of_ble_eq_true rfl, Nat.le_of_ble_eq_true rfl, Nat.le_of_ble_eq_true rfl, ?_⟩) | (refine ⟨Nat.le_of_ble_eq_true rfl, Nat.le_of_ble_eq_true rfl, Nat.le_of_ble_eq_true rfl, ?_⟩))
    refine md_kd M rfl hi5 ?_
    repeat (first | (refine hP _ _ _ _ _ _ ?_; conv => whnf) | (refine ⟨fun q => absurd q (by decide), fun _ => ?_⟩) | (refine ⟨fun _ => ?_, fun q => absurd (by decide) q⟩) | (refine ac_get M.1 ?_; conv => whnf) | (refine ⟨_, M.1, Nat.le_of_ble_eq_true rfl, Nat.le_of_ble_eq_true rfl, Nat.le_of_ble_eq_true rfl, ?_⟩) | (refine ⟨Nat.le_of_ble_eq_true rfl, Nat.le_of_ble_eq_true rfl, Nat.le_of_ble_eq_true rfl, ?_⟩))
    by_cases k9 : m_kd S i = 10
    · refine br_f (fun z => z (by rw [k9]; rfl)) ?_
      repeat (first | (refine hP _ _ _ _ _ _ ?_; conv => whnf) | (refine ⟨fun q => absurd q (by decide), fun _ => ?_⟩) | (refine ⟨fun _ => ?_, fun q => absurd (by decide) q⟩) | (refine ac_get M.1 ?_; conv => whnf) | (refine ⟨_, M.1, Nat.le_of_ble_eq_true rfl, Nat.le_of_ble_eq_true rfl, Nat.le_of_ble_eq_true rfl, ?_⟩) | (refine ⟨Nat.le_of_ble_eq_true rfl, Nat.le_of_ble_eq_true rfl, Nat.le_of_ble_eq_true rfl, ?_⟩))
      (refine r_good1 M (fun h M F => ?_); replace G := m_frT G F)
      repeat (first | (refine hP _ _ _ _ _ _ ?_; conv => whnf) | (refine ⟨fun q => absurd q (by decide), fun _ => ?_⟩) | (refine ⟨fun _ => ?_, fun q => absurd (by decide) q⟩) | (refine ac_get M.1 ?_; conv => whnf) | (refine ⟨_, M.1, Nat.le_of_ble_eq_true rfl, Nat.le_of_ble_eq_true rfl, Nat.le_of_ble_eq_true rfl, ?_⟩) | (refine ⟨Nat.le_of_ble_eq_true rfl, Nat.le_of_ble_eq_true rfl, Nat.le_of_ble_eq_true rfl, ?_⟩))
      refine br_f (m_rvS hi5) ?_
      repeat (first | (refine hP _ _ _ _ _ _ ?_; conv => whnf) | (refine ⟨fun q => absurd q (by decide), fun _ => ?_⟩) | (refine ⟨fun _ => ?_, fun q => absurd (by decide) q⟩) | (refine ac_get M.1 ?_; conv => whnf) | (refine ⟨_, M.1, Nat.le_of_ble_eq_true rfl, Nat.le_of_ble_eq_true rfl, Nat.le_of_ble_eq_true rfl, ?_⟩) | (refine ⟨Nat.le_of_ble_eq_true rfl, Nat.le_of_ble_eq_true rfl, Nat.le_of_ble_eq_true rfl, ?_⟩))
      (refine r_good1 M (fun h M F => ?_); replace G := m_frT G F)
      repeat (first | (refine hP _ _ _ _ _ _ ?_; conv => whnf) | (refine ⟨fun q => absurd q (by decide), fun _ => ?_⟩) | (refine ⟨fun _ => ?_, fun q => absurd (by decide) q⟩) | (refine ac_get M.1 ?_; conv => whnf) | (refine ⟨_, M.1, Nat.le_of_ble_eq_true rfl, Nat.le_of_ble_eq_true rfl, Nat.le_of_ble_eq_true rfl, ?_⟩) | (refine ⟨Nat.le_of_ble_eq_true rfl, Nat.le_of_ble_eq_true rfl, Nat.le_of_ble_eq_true rfl, ?_⟩))
      exact ⟨rfl, Or.inr rfl, h3 i e k9 _ _ _ M G, by decide, by decide⟩
    · refine br_t (nI_ne (b := 10) k9 (by omega) (by decide)) ?_
      repeat (first | (refine hP _ _ _ _ _ _ ?_; conv => whnf) | (refine ⟨fun q => absurd q (by decide), fun _ => ?_⟩) | (refine ⟨fun _ => ?_, fun q => absurd (by decide) q⟩) | (refine ac_get M.1 ?_; conv => whnf) | (refine ⟨_, M.1, Nat.le_of_ble_eq_true rfl, Nat.le_of_ble_eq_true rfl, Nat.le_of_ble_eq_true rfl, ?_⟩) | (refine ⟨Nat.le_of_ble_eq_true rfl, Nat.le_of_ble_eq_true rfl, Nat.le_of_ble_eq_true rfl, ?_⟩))
      (refine r_good0 M (fun h M F => ?_); replace G := m_frT G F)
      repeat (first | (refine hP _ _ _ _ _ _ ?_; conv => whnf) | (refine ⟨fun q => absurd q (by decide), fun _ => ?_⟩) | (refine ⟨fun _ => ?_, fun q => absurd (by decide) q⟩) | (refine ac_get M.1 ?_; conv => whnf) | (refine ⟨_, M.1, Nat.le_of_ble_eq_true rfl, Nat.le_of_ble_eq_true rfl, Nat.le_of_ble_eq_true rfl, ?_⟩) | (refine ⟨Nat.le_of_ble_eq_true rfl, Nat.le_of_ble_eq_true rfl, Nat.le_of_ble_eq_true rfl, ?_⟩))
      exact ⟨rfl, Or.inl rfl, h2 i e k9 _ _ _ M G, by decide, by decide⟩
theorem R_link (M : m_md h mm ar S ve el co) (W : m_wf S) {r t : Int32} (hQ : m_app (fun x _ S' => ∀ h' ve el, m_md h' mm ar S' ve el (m_ct 1 x) → m_fr mm ar h h' → Q (.inl none) h') (f_link S r t)) : T_X6_link [.ref mm, .int r, .int t] h Q := by
  have G : m_fr mm ar h h := m_fr0
  unfold f_link at hQ
  (intro P hP; conv => whnf)
  repeat (first | (refine hP _ _ _ _ _ _ ?_; conv => whnf) | (refine ⟨fun q => absurd q (by decide), fun _ => ?_⟩) | (refine ⟨fun _ => ?_, fun q => absurd (by decide) q⟩) | (refine ac_get M.1 ?_; conv => whnf) | (refine ⟨_, M.1, Nat.le_of_ble_eq_true rfl, Nat.le_of_ble_eq_true rfl, Nat.le_of_ble_eq_true rfl, ?_⟩) | (refine ⟨Nat.le_of_ble_eq_true rfl, Nat.le_of_ble_eq_true rfl, Nat.le_of_ble_eq_true rfl, ?_⟩))
  refine r_known M (fun q h M F => ?_) (fun q ha M F => ?_)
  · replace G := m_frT G F
    rw [if_pos q] at hQ
    repeat (first | (refine hP _ _ _ _ _ _ ?_; conv => whnf) | (refine ⟨fun q => absurd q (by decide), fun _ => ?_⟩) | (refine ⟨fun _ => ?_, fun q => absurd (by decide) q⟩) | (refine ac_get M.1 ?_; conv => whnf) | (refine ⟨_, M.1, Nat.le_of_ble_eq_true rfl, Nat.le_of_ble_eq_true rfl, Nat.le_of_ble_eq_true rfl, ?_⟩) | (refine ⟨Nat.le_of_ble_eq_true rfl, Nat.le_of_ble_eq_true rfl, Nat.le_of_ble_eq_true rfl, ?_⟩))
    exact ⟨rfl, hQ _ _ _ M G, by decide, by decide⟩
  · replace G := m_frT G F
    rw [if_neg q] at hQ
    obtain ⟨k, hk, rfl⟩ := m_badN (by decide) (fun z => q (Or.inl z))
    obtain ⟨t, ht, rfl⟩ := m_badN (by decide) (fun z => q (Or.inr z))
    rw [nI_clamp (by omega), nI_clamp (by omega)] at hQ
    have T : m_nr S (m_rg S t) = true → ∀ hx, m_md hx mm ar S ve el 0 → m_fr mm ar h hx → P 45 [some (.ref mm), some (.int (nI k)), some (.int (nI t)), some (.int (m_rv (m_rg S t)))] [] hx 0 0 := by
      intro hn hx M G
      rw [if_pos hn] at hQ
      unfold m_rc at hQ
      repeat (first | (refine hP _ _ _ _ _ _ ?_; conv => whnf) | (refine ⟨fun q => absurd q (by decide), fun _ => ?_⟩) | (refine ⟨fun _ => ?_, fun q => absurd (by decide) q⟩) | (refine ac_get M.1 ?_; conv => whnf) | (refine ⟨_, M.1, Nat.le_of_ble_eq_true rfl, Nat.le_of_ble_eq_true rfl, Nat.le_of_ble_eq_true rfl, ?_⟩) | (refine ⟨Nat.le_of_ble_eq_true rfl, Nat.le_of_ble_eq_true rfl, Nat.le_of_ble_eq_true rfl, ?_⟩))
      refine r_isRecord M W hk (fun e h ve el M F => ?_) (fun i e q1 h ve el M F => ?_) (fun i e q1 h ve el M F => ?_)
      · replace G := m_frT G F
        rw [e] at hQ
        repeat (first | (refine hP _ _ _ _ _ _ ?_; conv => whnf) | (refine ⟨fun q => absurd q (by decide), fun _ => ?_⟩) | (refine ⟨fun _ => ?_, fun q => absurd (by decide) q⟩) | (refine ac_get M.1 ?_; conv => whnf) | (refine ⟨_, M.1, Nat.le_of_ble_eq_true rfl, Nat.le_of_ble_eq_true rfl, Nat.le_of_ble_eq_true rfl, ?_⟩) | (refine ⟨Nat.le_of_ble_eq_true rfl, Nat.le_of_ble_eq_true rfl, Nat.le_of_ble_eq_true rfl, ?_⟩))
        exact ⟨rfl, hQ _ _ _ M G, by decide, by decide⟩
      · replace G := m_frT G F
        rw [e] at hQ
        replace hQ : m_app _ (if m_kd S i = 10 then (7, (), m_sst S (24 * i + 1) (m_lv (m_rg S t))) else (2, (), S)) := hQ
        rw [if_neg q1] at hQ
        repeat (first | (refine hP _ _ _ _ _ _ ?_; conv => whnf) | (refine ⟨fun q => absurd q (by decide), fun _ => ?_⟩) | (refine ⟨fun _ => ?_, fun q => absurd (by decide) q⟩) | (refine ac_get M.1 ?_; conv => whnf) | (refine ⟨_, M.1, Nat.le_of_ble_eq_true rfl, Nat.le_of_ble_eq_true rfl, Nat.le_of_ble_eq_true rfl, ?_⟩) | (refine ⟨Nat.le_of_ble_eq_true rfl, Nat.le_of_ble_eq_true rfl, Nat.le_of_ble_eq_true rfl, ?_⟩))
        exact ⟨rfl, hQ _ _ _ M G, by decide, by decide⟩
      · replace G := m_frT G F
        rw [e] at hQ
        replace hQ : m_app _ (if m_kd S i = 10 then (7, (), m_sst S (24 * i + 1) (m_lv (m_rg S t))) else (2, (), S)) := hQ
        rw [if_pos q1] at hQ
        have hi5 := m_w5 W (W.2.1 k i hk e)
        repeat (first | (refine hP _ _ _ _ _ _ ?_; conv => whnf) | (refine ⟨fun q => absurd q (by decide), fun _ => ?_⟩) | (refine ⟨fun _ => ?_, fun q => absurd (by decide) q⟩) | (refine ac_get M.1 ?_; conv => whnf) | (refine ⟨_, M.1, Nat.le_of_ble_eq_true rfl, Nat.le_of_ble_eq_true rfl, Nat.le_of_ble_eq_true rfl, ?_⟩) | (refine ⟨Nat.le_of_ble_eq_true rfl, Nat.le_of_ble_eq_true rfl, Nat.le_of_ble_eq_true rfl, ?_⟩))
        refine md_rg M rfl hk ?_
        rw [e]
        repeat (first | (refine hP _ _ _ _ _ _ ?_; conv => whnf) | (refine ⟨fun q => absurd q (by decide), fun _ => ?_⟩) | (refine ⟨fun _ => ?_, fun q => absurd (by decide) q⟩) | (refine ac_get M.1 ?_; conv => whnf) | (refine ⟨_, M.1, Nat.le_of_ble_eq_true rfl, Nat.le_of_ble_eq_true rfl, Nat.le_of_ble_eq_true rfl, ?_⟩) | (refine ⟨Nat.le_of_ble_eq_true rfl, Nat.le_of_ble_eq_true rfl, Nat.le_of_ble_eq_true rfl, ?_⟩))
        refine md_wst M (nI_24 i 1) (by omega) (m_rv64 (m_wr W ht)) (fun h M F => ?_)
        replace G := m_frT G F
        repeat (first | (refine hP _ _ _ _ _ _ ?_; conv => whnf) | (refine ⟨fun q => absurd q (by decide), fun _ => ?_⟩) | (refine ⟨fun _ => ?_, fun q => absurd (by decide) q⟩) | (refine ac_get M.1 ?_; conv => whnf) | (refine ⟨_, M.1, Nat.le_of_ble_eq_true rfl, Nat.le_of_ble_eq_true rfl, Nat.le_of_ble_eq_true rfl, ?_⟩) | (refine ⟨Nat.le_of_ble_eq_true rfl, Nat.le_of_ble_eq_true rfl, Nat.le_of_ble_eq_true rfl, ?_⟩))
        exact ⟨rfl, hQ _ _ _ M G, by decide, by decide⟩
    repeat (first | (refine hP _ _ _ _ _ _ ?_; conv => whnf) | (refine ⟨fun q => absurd q (by decide), fun _ => ?_⟩) | (refine ⟨fun _ => ?_, fun q => absurd (by decide) q⟩) | (refine ac_get M.1 ?_; conv => whnf) | (refine ⟨_, M.1, Nat.le_of_ble_eq_true rfl, Nat.le_of_ble_eq_true rfl, Nat.le_of_ble_eq_true rfl, ?_⟩) | (refine ⟨Nat.le_of_ble_eq_true rfl, Nat.le_of_ble_eq_true rfl, Nat.le_of_ble_eq_true rfl, ?_⟩))
    refine md_rg M rfl ht ?_
    cases e : m_rg S t with
    | none =>
      repeat (first | (refine hP _ _ _ _ _ _ ?_; conv => whnf) | (refine ⟨fun q => absurd q (by decide), fun _ => ?_⟩) | (refine ⟨fun _ => ?_, fun q => absurd (by decide) q⟩) | (refine ac_get M.1 ?_; conv => whnf) | (refine ⟨_, M.1, Nat.le_of_ble_eq_true rfl, Nat.le_of_ble_eq_true rfl, Nat.le_of_ble_eq_true rfl, ?_⟩) | (refine ⟨Nat.le_of_ble_eq_true rfl, Nat.le_of_ble_eq_true rfl, Nat.le_of_ble_eq_true rfl, ?_⟩))
      (refine r_good1 M (fun h M F => ?_); replace G := m_frT G F)
      iterate 1 (refine hP _ _ _ _ _ _ ?_; conv => whnf)
      refine ⟨fun q => absurd q (by decide), fun _ => ?_⟩
      rw [e] at T
      exact T rfl _ M G
    | some i =>
      have hi := W.2.1 t i ht e
      have hi5 := m_w5 W hi
      obtain ⟨w1, w2, w3, w4, w5, w6, w7, w8, w9, w10⟩ := W.2.2 i hi
      repeat (first | (refine hP _ _ _ _ _ _ ?_; conv => whnf) | (refine ⟨fun q => absurd q (by decide), fun _ => ?_⟩) | (refine ⟨fun _ => ?_, fun q => absurd (by decide) q⟩) | (refine ac_get M.1 ?_; conv => whnf) | (refine ⟨_, M.1, Nat.le_of_ble_eq_true rfl, Nat.le_of_ble_eq_true rfl, Nat.le_of_ble_eq_true rfl, ?_⟩) | (refine ⟨Nat.le_of_ble_eq_true rfl, Nat.le_of_ble_eq_true rfl, Nat.le_of_ble_eq_true rfl, ?_⟩))
      refine br_f (m_rvS hi5) ?_
      repeat (first | (refine hP _ _ _ _ _ _ ?_; conv => whnf) | (refine ⟨fun q => absurd q (by decide), fun _ => ?_⟩) | (refine ⟨fun _ => ?_, fun q => absurd (by decide) q⟩) | (refine ac_get M.1 ?_; conv => whnf) | (refine ⟨_, M.1, Nat.le_of_ble_eq_true rfl, Nat.le_of_ble_eq_true rfl, Nat.le_of_ble_eq_true rfl, ?_⟩) | (refine ⟨Nat.le_of_ble_eq_true rfl, Nat.le_of_ble_eq_true rfl, Nat.le_of_ble_eq_true rfl, ?_⟩))
      refine md_kd M rfl hi5 ?_
      repeat (first | (refine hP _ _ _ _ _ _ ?_; conv => whnf) | (refine ⟨fun q => absurd q (by decide), fun _ => ?_⟩) | (refine ⟨fun _ => ?_, fun q => absurd (by decide) q⟩) | (refine ac_get M.1 ?_; conv => whnf) | (refine ⟨_, M.1, Nat.le_of_ble_eq_true rfl, Nat.le_of_ble_eq_true rfl, Nat.le_of_ble_eq_true rfl, ?_⟩) | (refine ⟨Nat.le_of_ble_eq_true rfl, Nat.le_of_ble_eq_true rfl, Nat.le_of_ble_eq_true rfl, ?_⟩))
      by_cases k9 : m_kd S i = 10
      · refine br_f (fun z => z (by rw [k9]; rfl)) ?_
        repeat (first | (refine hP _ _ _ _ _ _ ?_; conv => whnf) | (refine ⟨fun q => absurd q (by decide), fun _ => ?_⟩) | (refine ⟨fun _ => ?_, fun q => absurd (by decide) q⟩) | (refine ac_get M.1 ?_; conv => whnf) | (refine ⟨_, M.1, Nat.le_of_ble_eq_true rfl, Nat.le_of_ble_eq_true rfl, Nat.le_of_ble_eq_true rfl, ?_⟩) | (refine ⟨Nat.le_of_ble_eq_true rfl, Nat.le_of_ble_eq_true rfl, Nat.le_of_ble_eq_true rfl, ?_⟩))
        (refine r_good1 M (fun h M F => ?_); replace G := m_frT G F)
        iterate 1 (refine hP _ _ _ _ _ _ ?_; conv => whnf)
        refine ⟨fun q => absurd q (by decide), fun _ => ?_⟩
        rw [e] at T
        exact T (by show (m_kd S i == 10) = true; rw [k9]; rfl) _ M G
      · refine br_t (nI_ne (b := 10) k9 (by omega) (by decide)) ?_
        rw [e, if_neg (show ¬ m_nr S (some i) = true from fun z => k9 (by simpa [m_nr] using z))] at hQ
        repeat (first | (refine hP _ _ _ _ _ _ ?_; conv => whnf) | (refine ⟨fun q => absurd q (by decide), fun _ => ?_⟩) | (refine ⟨fun _ => ?_, fun q => absurd (by decide) q⟩) | (refine ac_get M.1 ?_; conv => whnf) | (refine ⟨_, M.1, Nat.le_of_ble_eq_true rfl, Nat.le_of_ble_eq_true rfl, Nat.le_of_ble_eq_true rfl, ?_⟩) | (refine ⟨Nat.le_of_ble_eq_true rfl, Nat.le_of_ble_eq_true rfl, Nat.le_of_ble_eq_true rfl, ?_⟩))
        (refine r_good0 M (fun h M F => ?_); replace G := m_frT G F)
        repeat (first | (refine hP _ _ _ _ _ _ ?_; conv => whnf) | (refine ⟨fun q => absurd q (by decide), fun _ => ?_⟩) | (refine ⟨fun _ => ?_, fun q => absurd (by decide) q⟩) | (refine ac_get M.1 ?_; conv => whnf) | (refine ⟨_, M.1, Nat.le_of_ble_eq_true rfl, Nat.le_of_ble_eq_true rfl, Nat.le_of_ble_eq_true rfl, ?_⟩) | (refine ⟨Nat.le_of_ble_eq_true rfl, Nat.le_of_ble_eq_true rfl, Nat.le_of_ble_eq_true rfl, ?_⟩))
        exact ⟨rfl, hQ _ _ _ M G, by decide, by decide⟩
theorem R_follow (M : m_md h mm ar S ve el co) (W : m_wf S) {t r : Int32} (hQ : m_app (fun x a S' => ∀ h' ve el, m_md h' mm ar S' ve el (m_ct 1 x) → m_fr mm ar h h' → Q (.inl (some (.int a))) h') (f_follow S t r)) : T_X6_follow [.ref mm, .int t, .int r] h Q := by
  have G : m_fr mm ar h h := m_fr0
  unfold f_follow m_rc at hQ
  (intro P hP; conv => whnf)
  repeat (first | (refine hP _ _ _ _ _ _ ?_; conv => whnf) | (refine ⟨fun q => absurd q (by decide), fun _ => ?_⟩) | (refine ⟨fun _ => ?_, fun q => absurd (by decide) q⟩) | (refine ac_get M.1 ?_; conv => whnf) | (refine ⟨_, M.1, Nat.le_of_ble_eq_true rfl, Nat.le_of_ble_eq_true rfl, Nat.le_of_ble_eq_true rfl, ?_⟩) | (refine ⟨Nat.le_of_ble_eq_true rfl, Nat.le_of_ble_eq_true rfl, Nat.le_of_ble_eq_true rfl, ?_⟩))
  refine r_known M (fun q h M F => ?_) (fun q h M F => ?_)
  · replace G := m_frT G F
    rw [if_pos q] at hQ
    repeat (first | (refine hP _ _ _ _ _ _ ?_; conv => whnf) | (refine ⟨fun q => absurd q (by decide), fun _ => ?_⟩) | (refine ⟨fun _ => ?_, fun q => absurd (by decide) q⟩) | (refine ac_get M.1 ?_; conv => whnf) | (refine ⟨_, M.1, Nat.le_of_ble_eq_true rfl, Nat.le_of_ble_eq_true rfl, Nat.le_of_ble_eq_true rfl, ?_⟩) | (refine ⟨Nat.le_of_ble_eq_true rfl, Nat.le_of_ble_eq_true rfl, Nat.le_of_ble_eq_true rfl, ?_⟩))
    exact ⟨rfl, Or.inl rfl, hQ _ _ _ M G, by decide, by decide⟩
  · replace G := m_frT G F
    rw [if_neg q] at hQ
    obtain ⟨t, ht, rfl⟩ := m_badN (by decide) (fun z => q (Or.inl z))
    obtain ⟨k, hk, rfl⟩ := m_badN (by decide) (fun z => q (Or.inr z))
    rw [nI_clamp (by omega), nI_clamp (by omega)] at hQ
    repeat (first | (refine hP _ _ _ _ _ _ ?_; conv => whnf) | (refine ⟨fun q => absurd q (by decide), fun _ => ?_⟩) | (refine ⟨fun _ => ?_, fun q => absurd (by decide) q⟩) | (refine ac_get M.1 ?_; conv => whnf) | (refine ⟨_, M.1, Nat.le_of_ble_eq_true rfl, Nat.le_of_ble_eq_true rfl, Nat.le_of_ble_eq_true rfl, ?_⟩) | (refine ⟨Nat.le_of_ble_eq_true rfl, Nat.le_of_ble_eq_true rfl, Nat.le_of_ble_eq_true rfl, ?_⟩))
    refine r_isRecord M W hk (fun e h ve el M F => ?_) (fun i e q1 h ve el M F => ?_) (fun i e q1 h ve el M F => ?_)
    · replace G := m_frT G F
      rw [e] at hQ
      repeat (first | (refine hP _ _ _ _ _ _ ?_; conv => whnf) | (refine ⟨fun q => absurd q (by decide), fun _ => ?_⟩) | (refine ⟨fun _ => ?_, fun q => absurd (by decide) q⟩) | (refine ac_get M.1 ?_; conv => whnf) | (refine ⟨_, M.1, Nat.le_of_ble_eq_true rfl, Nat.le_of_ble_eq_true rfl, Nat.le_of_ble_eq_true rfl, ?_⟩) | (refine ⟨Nat.le_of_ble_eq_true rfl, Nat.le_of_ble_eq_true rfl, Nat.le_of_ble_eq_true rfl, ?_⟩))
      exact ⟨rfl, Or.inl rfl, hQ _ _ _ M G, by decide, by decide⟩
    · replace G := m_frT G F
      rw [e] at hQ
      replace hQ : m_app _ (if m_kd S i = 10 then (7, m_no (m_dl (m_st S (24 * i + 1))), m_srg S t (m_dl (m_st S (24 * i + 1)))) else (2, 0, S)) := hQ
      rw [if_neg q1] at hQ
      repeat (first | (refine hP _ _ _ _ _ _ ?_; conv => whnf) | (refine ⟨fun q => absurd q (by decide), fun _ => ?_⟩) | (refine ⟨fun _ => ?_, fun q => absurd (by decide) q⟩) | (refine ac_get M.1 ?_; conv => whnf) | (refine ⟨_, M.1, Nat.le_of_ble_eq_true rfl, Nat.le_of_ble_eq_true rfl, Nat.le_of_ble_eq_true rfl, ?_⟩) | (refine ⟨Nat.le_of_ble_eq_true rfl, Nat.le_of_ble_eq_true rfl, Nat.le_of_ble_eq_true rfl, ?_⟩))
      exact ⟨rfl, Or.inl rfl, hQ _ _ _ M G, by decide, by decide⟩
    · replace G := m_frT G F
      rw [e] at hQ
      replace hQ : m_app _ (if m_kd S i = 10 then (7, m_no (m_dl (m_st S (24 * i + 1))), m_srg S t (m_dl (m_st S (24 * i + 1)))) else (2, 0, S)) := hQ
      rw [if_pos q1] at hQ
      have hi := W.2.1 k i hk e
      have hi5 := m_w5 W hi
      have hL := ((W.2.2 _ hi).2.2.2.2.2.2.2.1 q1).1
      repeat (first | (refine hP _ _ _ _ _ _ ?_; conv => whnf) | (refine ⟨fun q => absurd q (by decide), fun _ => ?_⟩) | (refine ⟨fun _ => ?_, fun q => absurd (by decide) q⟩) | (refine ac_get M.1 ?_; conv => whnf) | (refine ⟨_, M.1, Nat.le_of_ble_eq_true rfl, Nat.le_of_ble_eq_true rfl, Nat.le_of_ble_eq_true rfl, ?_⟩) | (refine ⟨Nat.le_of_ble_eq_true rfl, Nat.le_of_ble_eq_true rfl, Nat.le_of_ble_eq_true rfl, ?_⟩))
      refine md_rg M rfl hk ?_
      rw [e]
      repeat (first | (refine hP _ _ _ _ _ _ ?_; conv => whnf) | (refine ⟨fun q => absurd q (by decide), fun _ => ?_⟩) | (refine ⟨fun _ => ?_, fun q => absurd (by decide) q⟩) | (refine ac_get M.1 ?_; conv => whnf) | (refine ⟨_, M.1, Nat.le_of_ble_eq_true rfl, Nat.le_of_ble_eq_true rfl, Nat.le_of_ble_eq_true rfl, ?_⟩) | (refine ⟨Nat.le_of_ble_eq_true rfl, Nat.le_of_ble_eq_true rfl, Nat.le_of_ble_eq_true rfl, ?_⟩))
      refine md_st M (nI_24 i 1) (by omega) ?_
      repeat (first | (refine hP _ _ _ _ _ _ ?_; conv => whnf) | (refine ⟨fun q => absurd q (by decide), fun _ => ?_⟩) | (refine ⟨fun _ => ?_, fun q => absurd (by decide) q⟩) | (refine ac_get M.1 ?_; conv => whnf) | (refine ⟨_, M.1, Nat.le_of_ble_eq_true rfl, Nat.le_of_ble_eq_true rfl, Nat.le_of_ble_eq_true rfl, ?_⟩) | (refine ⟨Nat.le_of_ble_eq_true rfl, Nat.le_of_ble_eq_true rfl, Nat.le_of_ble_eq_true rfl, ?_⟩))
      revert hQ
      rw [m_lk32 hL]
      have hb := hL.2
      generalize m_dl (m_st S (24 * i + 1)) = o at hb ⊢
      intro hQ
      refine md_wrg M (o := o) rfl ht rfl (fun h M F => ?_)
      replace G := m_frT G F
      repeat (first | (refine hP _ _ _ _ _ _ ?_; conv => whnf) | (refine ⟨fun q => absurd q (by decide), fun _ => ?_⟩) | (refine ⟨fun _ => ?_, fun q => absurd (by decide) q⟩) | (refine ac_get M.1 ?_; conv => whnf) | (refine ⟨_, M.1, Nat.le_of_ble_eq_true rfl, Nat.le_of_ble_eq_true rfl, Nat.le_of_ble_eq_true rfl, ?_⟩) | (refine ⟨Nat.le_of_ble_eq_true rfl, Nat.le_of_ble_eq_true rfl, Nat.le_of_ble_eq_true rfl, ?_⟩))
      refine md_rg M rfl ht ?_
      rw [show m_rg (m_srg S t o) t = o from va_upE]
      cases o with
      | none =>
        repeat (first | (refine hP _ _ _ _ _ _ ?_; conv => whnf) | (refine ⟨fun q => absurd q (by decide), fun _ => ?_⟩) | (refine ⟨fun _ => ?_, fun q => absurd (by decide) q⟩) | (refine ac_get M.1 ?_; conv => whnf) | (refine ⟨_, M.1, Nat.le_of_ble_eq_true rfl, Nat.le_of_ble_eq_true rfl, Nat.le_of_ble_eq_true rfl, ?_⟩) | (refine ⟨Nat.le_of_ble_eq_true rfl, Nat.le_of_ble_eq_true rfl, Nat.le_of_ble_eq_true rfl, ?_⟩))
        exact ⟨rfl, Or.inr rfl, hQ _ _ _ M G, by decide, by decide⟩
      | some j =>
        have hj := hb j rfl
        repeat (first | (refine hP _ _ _ _ _ _ ?_; conv => whnf) | (refine ⟨fun q => absurd q (by decide), fun _ => ?_⟩) | (refine ⟨fun _ => ?_, fun q => absurd (by decide) q⟩) | (refine ac_get M.1 ?_; conv => whnf) | (refine ⟨_, M.1, Nat.le_of_ble_eq_true rfl, Nat.le_of_ble_eq_true rfl, Nat.le_of_ble_eq_true rfl, ?_⟩) | (refine ⟨Nat.le_of_ble_eq_true rfl, Nat.le_of_ble_eq_true rfl, Nat.le_of_ble_eq_true rfl, ?_⟩))
        refine br_t (nI_pos' (by have := m_w5 W hj; omega)) ?_
        repeat (first | (refine hP _ _ _ _ _ _ ?_; conv => whnf) | (refine ⟨fun q => absurd q (by decide), fun _ => ?_⟩) | (refine ⟨fun _ => ?_, fun q => absurd (by decide) q⟩) | (refine ac_get M.1 ?_; conv => whnf) | (refine ⟨_, M.1, Nat.le_of_ble_eq_true rfl, Nat.le_of_ble_eq_true rfl, Nat.le_of_ble_eq_true rfl, ?_⟩) | (refine ⟨Nat.le_of_ble_eq_true rfl, Nat.le_of_ble_eq_true rfl, Nat.le_of_ble_eq_true rfl, ?_⟩))
        exact ⟨rfl, Or.inl rfl, hQ _ _ _ M G, by decide, by decide⟩
theorem R_exchange (M : m_md h mm ar S ve el co) (W : m_wf S) {r : Int32} {v : Int64} (hQ : m_app (fun x a S' => ∀ h' ve el, m_md h' mm ar S' ve el (m_ct 1 x) → m_fr mm ar h h' → Q (.inl (some (.long a))) h') (f_exchange S r v)) : T_X6_exchange [.ref mm, .int r, .long v] h Q := by
  have G : m_fr mm ar h h := m_fr0
  unfold f_exchange m_rc at hQ
  (intro P hP; conv => whnf)
  repeat (first | (refine hP _ _ _ _ _ _ ?_; conv => whnf) | (refine ⟨fun q => absurd q (by decide), fun _ => ?_⟩) | (refine ⟨fun _ => ?_, fun q => absurd (by decide) q⟩) | (refine ac_get M.1 ?_; conv => whnf) | (refine ⟨_, M.1, Nat.le_of_ble_eq_true rfl, Nat.le_of_ble_eq_true rfl, Nat.le_of_ble_eq_true rfl, ?_⟩) | (refine ⟨Nat.le_of_ble_eq_true rfl, Nat.le_of_ble_eq_true rfl, Nat.le_of_ble_eq_true rfl, ?_⟩))
  refine r_known M (fun q h M F => ?_) (fun q h M F => ?_)
  · replace G := m_frT G F
    rw [if_pos (q.elim id (fun z => absurd z (by decide)))] at hQ
    repeat (first | (refine hP _ _ _ _ _ _ ?_; conv => whnf) | (refine ⟨fun q => absurd q (by decide), fun _ => ?_⟩) | (refine ⟨fun _ => ?_, fun q => absurd (by decide) q⟩) | (refine ac_get M.1 ?_; conv => whnf) | (refine ⟨_, M.1, Nat.le_of_ble_eq_true rfl, Nat.le_of_ble_eq_true rfl, Nat.le_of_ble_eq_true rfl, ?_⟩) | (refine ⟨Nat.le_of_ble_eq_true rfl, Nat.le_of_ble_eq_true rfl, Nat.le_of_ble_eq_true rfl, ?_⟩))
    exact ⟨rfl, hQ _ _ _ M G, by decide, by decide⟩
  · replace G := m_frT G F
    rw [if_neg (fun z => q (Or.inl z))] at hQ
    obtain ⟨k, hk, rfl⟩ := m_badN (by decide) (fun z => q (Or.inl z))
    rw [nI_clamp (by omega)] at hQ
    repeat (first | (refine hP _ _ _ _ _ _ ?_; conv => whnf) | (refine ⟨fun q => absurd q (by decide), fun _ => ?_⟩) | (refine ⟨fun _ => ?_, fun q => absurd (by decide) q⟩) | (refine ac_get M.1 ?_; conv => whnf) | (refine ⟨_, M.1, Nat.le_of_ble_eq_true rfl, Nat.le_of_ble_eq_true rfl, Nat.le_of_ble_eq_true rfl, ?_⟩) | (refine ⟨Nat.le_of_ble_eq_true rfl, Nat.le_of_ble_eq_true rfl, Nat.le_of_ble_eq_true rfl, ?_⟩))
    refine r_isRecord M W hk (fun e h ve el M F => ?_) (fun i e q1 h ve el M F => ?_) (fun i e q1 h ve el M F => ?_)
    · replace G := m_frT G F
      rw [e] at hQ
      repeat (first | (refine hP _ _ _ _ _ _ ?_; conv => whnf) | (refine ⟨fun q => absurd q (by decide), fun _ => ?_⟩) | (refine ⟨fun _ => ?_, fun q => absurd (by decide) q⟩) | (refine ac_get M.1 ?_; conv => whnf) | (refine ⟨_, M.1, Nat.le_of_ble_eq_true rfl, Nat.le_of_ble_eq_true rfl, Nat.le_of_ble_eq_true rfl, ?_⟩) | (refine ⟨Nat.le_of_ble_eq_true rfl, Nat.le_of_ble_eq_true rfl, Nat.le_of_ble_eq_true rfl, ?_⟩))
      exact ⟨rfl, hQ _ _ _ M G, by decide, by decide⟩
    · replace G := m_frT G F
      rw [e] at hQ
      replace hQ : m_app _ (if m_kd S i = 10 then (7, m_st S (24 * i), m_sst S (24 * i) v) else (2, 0, S)) := hQ
      rw [if_neg q1] at hQ
      repeat (first | (refine hP _ _ _ _ _ _ ?_; conv => whnf) | (refine ⟨fun q => absurd q (by decide), fun _ => ?_⟩) | (refine ⟨fun _ => ?_, fun q => absurd (by decide) q⟩) | (refine ac_get M.1 ?_; conv => whnf) | (refine ⟨_, M.1, Nat.le_of_ble_eq_true rfl, Nat.le_of_ble_eq_true rfl, Nat.le_of_ble_eq_true rfl, ?_⟩) | (refine ⟨Nat.le_of_ble_eq_true rfl, Nat.le_of_ble_eq_true rfl, Nat.le_of_ble_eq_true rfl, ?_⟩))
      exact ⟨rfl, hQ _ _ _ M G, by decide, by decide⟩
    · replace G := m_frT G F
      rw [e] at hQ
      replace hQ : m_app _ (if m_kd S i = 10 then (7, m_st S (24 * i), m_sst S (24 * i) v) else (2, 0, S)) := hQ
      rw [if_pos q1] at hQ
      have hi5 := m_w5 W (W.2.1 k i hk e)
      repeat (first | (refine hP _ _ _ _ _ _ ?_; conv => whnf) | (refine ⟨fun q => absurd q (by decide), fun _ => ?_⟩) | (refine ⟨fun _ => ?_, fun q => absurd (by decide) q⟩) | (refine ac_get M.1 ?_; conv => whnf) | (refine ⟨_, M.1, Nat.le_of_ble_eq_true rfl, Nat.le_of_ble_eq_true rfl, Nat.le_of_ble_eq_true rfl, ?_⟩) | (refine ⟨Nat.le_of_ble_eq_true rfl, Nat.le_of_ble_eq_true rfl, Nat.le_of_ble_eq_true rfl, ?_⟩))
      refine md_rg M rfl hk ?_
      rw [e]
      repeat (first | (refine hP _ _ _ _ _ _ ?_; conv => whnf) | (refine ⟨fun q => absurd q (by decide), fun _ => ?_⟩) | (refine ⟨fun _ => ?_, fun q => absurd (by decide) q⟩) | (refine ac_get M.1 ?_; conv => whnf) | (refine ⟨_, M.1, Nat.le_of_ble_eq_true rfl, Nat.le_of_ble_eq_true rfl, Nat.le_of_ble_eq_true rfl, ?_⟩) | (refine ⟨Nat.le_of_ble_eq_true rfl, Nat.le_of_ble_eq_true rfl, Nat.le_of_ble_eq_true rfl, ?_⟩))
      refine md_st M (nI_mul 24 i) (by omega) ?_
      repeat (first | (refine hP _ _ _ _ _ _ ?_; conv => whnf) | (refine ⟨fun q => absurd q (by decide), fun _ => ?_⟩) | (refine ⟨fun _ => ?_, fun q => absurd (by decide) q⟩) | (refine ac_get M.1 ?_; conv => whnf) | (refine ⟨_, M.1, Nat.le_of_ble_eq_true rfl, Nat.le_of_ble_eq_true rfl, Nat.le_of_ble_eq_true rfl, ?_⟩) | (refine ⟨Nat.le_of_ble_eq_true rfl, Nat.le_of_ble_eq_true rfl, Nat.le_of_ble_eq_true rfl, ?_⟩))
      refine md_wst M (nI_mul 24 i) (by omega) rfl (fun h M F => ?_)
      replace G := m_frT G F
      repeat (first | (refine hP _ _ _ _ _ _ ?_; conv => whnf) | (refine ⟨fun q => absurd q (by decide), fun _ => ?_⟩) | (refine ⟨fun _ => ?_, fun q => absurd (by decide) q⟩) | (refine ac_get M.1 ?_; conv => whnf) | (refine ⟨_, M.1, Nat.le_of_ble_eq_true rfl, Nat.le_of_ble_eq_true rfl, Nat.le_of_ble_eq_true rfl, ?_⟩) | (refine ⟨Nat.le_of_ble_eq_true rfl, Nat.le_of_ble_eq_true rfl, Nat.le_of_ble_eq_true rfl, ?_⟩))
      exact ⟨rfl, hQ _ _ _ M G, by decide, by decide⟩
theorem R_total (M : m_md h mm ar S ve el co) (W : m_wf S) {r : Int32} (hQ : m_app (fun x a S' => ∀ h' ve el, m_md h' mm ar S' ve el (m_ct 1 x) → m_fr mm ar h h' → Q (.inl (some (.long a))) h') (f_total S r)) : T_X6_total [.ref mm, .int r] h Q := by
  have G : m_fr mm ar h h := m_fr0
  unfold f_total m_rc at hQ
  (intro P hP; conv => whnf)
  repeat (first | (refine hP _ _ _ _ _ _ ?_; conv => whnf) | (refine ⟨fun q => absurd q (by decide), fun _ => ?_⟩) | (refine ⟨fun _ => ?_, fun q => absurd (by decide) q⟩) | (refine ac_get M.1 ?_; conv => whnf) | (refine ⟨_, M.1, Nat.le_of_ble_eq_true rfl, Nat.le_of_ble_eq_true rfl, Nat.le_of_ble_eq_true rfl, ?_⟩) | (refine ⟨Nat.le_of_ble_eq_true rfl, Nat.le_of_ble_eq_true rfl, Nat.le_of_ble_eq_true rfl, ?_⟩))
  refine r_known M (fun q h M F => ?_) (fun q h M F => ?_)
  · replace G := m_frT G F
    rw [if_pos (q.elim id (fun z => absurd z (by decide)))] at hQ
    repeat (first | (refine hP _ _ _ _ _ _ ?_; conv => whnf) | (refine ⟨fun q => absurd q (by decide), fun _ => ?_⟩) | (refine ⟨fun _ => ?_, fun q => absurd (by decide) q⟩) | (refine ac_get M.1 ?_; conv => whnf) | (refine ⟨_, M.1, Nat.le_of_ble_eq_true rfl, Nat.le_of_ble_eq_true rfl, Nat.le_of_ble_eq_true rfl, ?_⟩) | (refine ⟨Nat.le_of_ble_eq_true rfl, Nat.le_of_ble_eq_true rfl, Nat.le_of_ble_eq_true rfl, ?_⟩))
    exact ⟨rfl, hQ _ _ _ M G, by decide, by decide⟩
  · replace G := m_frT G F
    rw [if_neg (fun z => q (Or.inl z))] at hQ
    obtain ⟨k, hk, rfl⟩ := m_badN (by decide) (fun z => q (Or.inl z))
    rw [nI_clamp (by omega)] at hQ
    repeat (first | (refine hP _ _ _ _ _ _ ?_; conv => whnf) | (refine ⟨fun q => absurd q (by decide), fun _ => ?_⟩) | (refine ⟨fun _ => ?_, fun q => absurd (by decide) q⟩) | (refine ac_get M.1 ?_; conv => whnf) | (refine ⟨_, M.1, Nat.le_of_ble_eq_true rfl, Nat.le_of_ble_eq_true rfl, Nat.le_of_ble_eq_true rfl, ?_⟩) | (refine ⟨Nat.le_of_ble_eq_true rfl, Nat.le_of_ble_eq_true rfl, Nat.le_of_ble_eq_true rfl, ?_⟩))
    refine r_isRecord M W hk (fun e h ve el M F => ?_) (fun i e q1 h ve el M F => ?_) (fun i e q1 h ve el M F => ?_)
    · replace G := m_frT G F
      rw [e] at hQ
      repeat (first | (refine hP _ _ _ _ _ _ ?_; conv => whnf) | (refine ⟨fun q => absurd q (by decide), fun _ => ?_⟩) | (refine ⟨fun _ => ?_, fun q => absurd (by decide) q⟩) | (refine ac_get M.1 ?_; conv => whnf) | (refine ⟨_, M.1, Nat.le_of_ble_eq_true rfl, Nat.le_of_ble_eq_true rfl, Nat.le_of_ble_eq_true rfl, ?_⟩) | (refine ⟨Nat.le_of_ble_eq_true rfl, Nat.le_of_ble_eq_true rfl, Nat.le_of_ble_eq_true rfl, ?_⟩))
      exact ⟨rfl, hQ _ _ _ M G, by decide, by decide⟩
    · replace G := m_frT G F
      rw [e] at hQ
      replace hQ : m_app _ (if m_kd S i = 10 then (7, m_tot S 20 (some i) 0, S) else (2, 0, S)) := hQ
      rw [if_neg q1] at hQ
      repeat (first | (refine hP _ _ _ _ _ _ ?_; conv => whnf) | (refine ⟨fun q => absurd q (by decide), fun _ => ?_⟩) | (refine ⟨fun _ => ?_, fun q => absurd (by decide) q⟩) | (refine ac_get M.1 ?_; conv => whnf) | (refine ⟨_, M.1, Nat.le_of_ble_eq_true rfl, Nat.le_of_ble_eq_true rfl, Nat.le_of_ble_eq_true rfl, ?_⟩) | (refine ⟨Nat.le_of_ble_eq_true rfl, Nat.le_of_ble_eq_true rfl, Nat.le_of_ble_eq_true rfl, ?_⟩))
      exact ⟨rfl, hQ _ _ _ M G, by decide, by decide⟩
    · replace G := m_frT G F
      rw [e] at hQ
      replace hQ : m_app _ (if m_kd S i = 10 then (7, m_tot S 20 (some i) 0, S) else (2, 0, S)) := hQ
      rw [if_pos q1] at hQ
      have hi := W.2.1 k i hk e
      have L : ∀ d j o a, j + d = 20 → (∀ i, o = some i → i < m_mk S ∧ m_kd S i = 10) → Q (.inl (some (.long (m_tot S d o a)))) h → P 32 [some (.ref mm), some (.int (nI k)), some (.long a), none, some (.int (m_rv o)), some (.int (nI j))] [] h 0 0 := by
        intro d
        induction d with
        | zero =>
          intro j o a ej ho hq
          have e20 : j = 20 := by omega
          subst e20
          repeat (first | (refine hP _ _ _ _ _ _ ?_; conv => whnf) | (refine ⟨fun q => absurd q (by decide), fun _ => ?_⟩) | (refine ⟨fun _ => ?_, fun q => absurd (by decide) q⟩) | (refine ac_get M.1 ?_; conv => whnf) | (refine ⟨_, M.1, Nat.le_of_ble_eq_true rfl, Nat.le_of_ble_eq_true rfl, Nat.le_of_ble_eq_true rfl, ?_⟩) | (refine ⟨Nat.le_of_ble_eq_true rfl, Nat.le_of_ble_eq_true rfl, Nat.le_of_ble_eq_true rfl, ?_⟩))
          exact ⟨rfl, hq, by decide, by decide⟩
        | succ d ih =>
          intro j o a ej ho hq
          repeat (first | (refine hP _ _ _ _ _ _ ?_; conv => whnf) | (refine ⟨fun q => absurd q (by decide), fun _ => ?_⟩) | (refine ⟨fun _ => ?_, fun q => absurd (by decide) q⟩) | (refine ac_get M.1 ?_; conv => whnf) | (refine ⟨_, M.1, Nat.le_of_ble_eq_true rfl, Nat.le_of_ble_eq_true rfl, Nat.le_of_ble_eq_true rfl, ?_⟩) | (refine ⟨Nat.le_of_ble_eq_true rfl, Nat.le_of_ble_eq_true rfl, Nat.le_of_ble_eq_true rfl, ?_⟩))
          refine br_f (nI_ge (b := 20) (by omega) (by decide)) ?_
          cases o with
          | none =>
            repeat (first | (refine hP _ _ _ _ _ _ ?_; conv => whnf) | (refine ⟨fun q => absurd q (by decide), fun _ => ?_⟩) | (refine ⟨fun _ => ?_, fun q => absurd (by decide) q⟩) | (refine ac_get M.1 ?_; conv => whnf) | (refine ⟨_, M.1, Nat.le_of_ble_eq_true rfl, Nat.le_of_ble_eq_true rfl, Nat.le_of_ble_eq_true rfl, ?_⟩) | (refine ⟨Nat.le_of_ble_eq_true rfl, Nat.le_of_ble_eq_true rfl, Nat.le_of_ble_eq_true rfl, ?_⟩))
            exact ⟨rfl, hq, by decide, by decide⟩
          | some i =>
            obtain ⟨hi, k10⟩ := ho i rfl
            have hi5 := m_w5 W hi
            obtain ⟨hL, hL2⟩ := (W.2.2 _ hi).2.2.2.2.2.2.2.1 k10
            repeat (first | (refine hP _ _ _ _ _ _ ?_; conv => whnf) | (refine ⟨fun q => absurd q (by decide), fun _ => ?_⟩) | (refine ⟨fun _ => ?_, fun q => absurd (by decide) q⟩) | (refine ac_get M.1 ?_; conv => whnf) | (refine ⟨_, M.1, Nat.le_of_ble_eq_true rfl, Nat.le_of_ble_eq_true rfl, Nat.le_of_ble_eq_true rfl, ?_⟩) | (refine ⟨Nat.le_of_ble_eq_true rfl, Nat.le_of_ble_eq_true rfl, Nat.le_of_ble_eq_true rfl, ?_⟩))
            refine br_f (m_rvS hi5) ?_
            repeat (first | (refine hP _ _ _ _ _ _ ?_; conv => whnf) | (refine ⟨fun q => absurd q (by decide), fun _ => ?_⟩) | (refine ⟨fun _ => ?_, fun q => absurd (by decide) q⟩) | (refine ac_get M.1 ?_; conv => whnf) | (refine ⟨_, M.1, Nat.le_of_ble_eq_true rfl, Nat.le_of_ble_eq_true rfl, Nat.le_of_ble_eq_true rfl, ?_⟩) | (refine ⟨Nat.le_of_ble_eq_true rfl, Nat.le_of_ble_eq_true rfl, Nat.le_of_ble_eq_true rfl, ?_⟩))
            refine md_st M (nI_mul 24 i) (by omega) ?_
            repeat (first | (refine hP _ _ _ _ _ _ ?_; conv => whnf) | (refine ⟨fun q => absurd q (by decide), fun _ => ?_⟩) | (refine ⟨fun _ => ?_, fun q => absurd (by decide) q⟩) | (refine ac_get M.1 ?_; conv => whnf) | (refine ⟨_, M.1, Nat.le_of_ble_eq_true rfl, Nat.le_of_ble_eq_true rfl, Nat.le_of_ble_eq_true rfl, ?_⟩) | (refine ⟨Nat.le_of_ble_eq_true rfl, Nat.le_of_ble_eq_true rfl, Nat.le_of_ble_eq_true rfl, ?_⟩))
            refine md_st M (nI_24 i 1) (by omega) ?_
            iterate 4 (refine hP _ _ _ _ _ _ ?_; conv => whnf)
            rw [m_lk32 hL, nI_1]
            exact ih (j + 1) _ _ (by omega) (fun i ei => ⟨hL.2 i ei, hL2 i ei⟩) hq
      iterate 1 (refine hP _ _ _ _ _ _ ?_; conv => whnf)
      refine ⟨fun _ => ?_, fun q => absurd (by decide) q⟩
      iterate 4 (refine hP _ _ _ _ _ _ ?_; conv => whnf)
      refine ac_get M.1 ?_
      (conv => whnf)
      iterate 2 (refine hP _ _ _ _ _ _ ?_; conv => whnf)
      refine md_rg M rfl hk ?_
      rw [e]
      iterate 3 (refine hP _ _ _ _ _ _ ?_; conv => whnf)
      exact L 20 0 (some i) 0 rfl (fun j ej => by cases ej; exact ⟨hi, q1⟩) (hQ _ _ _ M G)
end REFE
