/-! ===== the reference: combine, move ===== -/
theorem wf_sst {S : m_S} (W : m_wf S) {g e : Nat} {v : Int64} (he : e < 24) (h8 : m_kd S g = 8 → m_lk S v) (h10 : m_kd S g = 10 → e = 1 → m_lk S v ∧ ∀ j, m_dl v = some j → m_kd S j = 10) : m_wf (m_sst S (24 * g + e) v) := by
  refine ⟨W.1, W.2.1, fun i hi => ?_⟩
  obtain ⟨w1, w2, w3, w4, w5, w6, w7, w8, w9, w10⟩ := W.2.2 i hi
  refine ⟨w1, w2, w3, w4, w5, w6, fun k8 e2 he2 => ?_, fun k10 => ?_, w9, w10⟩
  · show m_lk S (vp_updL (m_st S) (24 * g + e) v (24 * i + e2))
    by_cases c : 24 * i + e2 = 24 * g + e
    · have hig : i = g := by omega
      subst hig
      rw [c, vp_updE]
      exact h8 k8
    · rw [vp_updN c]
      exact w7 k8 e2 he2
  · show m_lk S (vp_updL (m_st S) (24 * g + e) v (24 * i + 1)) ∧ ∀ j, m_dl (vp_updL (m_st S) (24 * g + e) v (24 * i + 1)) = some j → m_kd S j = 10
    by_cases c : 24 * i + 1 = 24 * g + e
    · have hig : i = g := by omega
      subst hig
      rw [c, vp_updE]
      exact h10 k10 (by omega)
    · rw [vp_updN c]
      exact w8 k10
theorem wf_sst7 {S : m_S} (W : m_wf S) {g e : Nat} {v : Int64} (he : e < 24) (hk : m_kd S g ≤ 7) : m_wf (m_sst S (24 * g + e) v) := wf_sst W he (fun z => by omega) (fun z => by omega)
section REFF
variable {h : ac_H} {mm : Nat} {ar : Nat → Nat} {S : m_S} {ve el co : Int32} {Q : ac_Q}
theorem r_both (M : m_md h mm ar S ve el co) (W : m_wf S) {k t b : Nat} (hk : k < 8) (ht : t < 8) (hb : b < 2 ^ 31)
    (h1 : (m_rg S k = none ∨ m_rg S t = none) → ∀ h' ve el, m_md h' mm ar S ve el 2 → m_fr mm ar h h' → Q (.inl (some (.int 0))) h')
    (h2 : ∀ i j, m_rg S k = some i → m_rg S t = some j → (b < m_kd S (m_gr S i) ∨ b < m_kd S (m_gr S j)) → ∀ h' ve el, m_md h' mm ar S ve el 3 → m_fr mm ar h h' → Q (.inl (some (.int 0))) h')
    (h3 : ∀ i j, m_rg S k = some i → m_rg S t = some j → ¬ (b < m_kd S (m_gr S i) ∨ b < m_kd S (m_gr S j)) → ∀ h' ve el, m_md h' mm ar S ve el 0 → m_fr mm ar h h' → Q (.inl (some (.int 1))) h') : T_X6_both [.ref mm, .int (nI k), .int (nI t), .int (nI b)] h Q := by
  have G : m_fr mm ar h h := m_fr0
  (intro P hP; conv => whnf)
  repeat (first | (refine hP _ _ _ _ _ _ ?_; conv => whnf) | (refine ⟨fun q => absurd q (by decide), fun _ => ?_⟩) | (refine ⟨fun _ => ?_, fun q => absurd (by decide) q⟩) | (refine ac_get M.1 ?_; conv => whnf) | (refine ⟨_, M.1, Nat.le_of_ble_eq_true rfl, Nat.le_of_ble_eq_true rfl, Nat.le_of_ble_eq_true rfl, ?_⟩) | (refine ⟨Nat.le_of_ble_eq_true rfl, Nat.le_of_ble_eq_true rfl, Nat.le_of_ble_eq_true rfl, ?_⟩))
  refine md_rg M rfl hk ?_
  repeat (first | (refine hP _ _ _ _ _ _ ?_; conv => whnf) | (refine ⟨fun q => absurd q (by decide), fun _ => ?_⟩) | (refine ⟨fun _ => ?_, fun q => absurd (by decide) q⟩) | (refine ac_get M.1 ?_; conv => whnf) | (refine ⟨_, M.1, Nat.le_of_ble_eq_true rfl, Nat.le_of_ble_eq_true rfl, Nat.le_of_ble_eq_true rfl, ?_⟩) | (refine ⟨Nat.le_of_ble_eq_true rfl, Nat.le_of_ble_eq_true rfl, Nat.le_of_ble_eq_true rfl, ?_⟩))
  refine md_rg M rfl ht ?_
  cases e : m_rg S k with
  | none =>
    repeat (first | (refine hP _ _ _ _ _ _ ?_; conv => whnf) | (refine ⟨fun q => absurd q (by decide), fun _ => ?_⟩) | (refine ⟨fun _ => ?_, fun q => absurd (by decide) q⟩) | (refine ac_get M.1 ?_; conv => whnf) | (refine ⟨_, M.1, Nat.le_of_ble_eq_true rfl, Nat.le_of_ble_eq_true rfl, Nat.le_of_ble_eq_true rfl, ?_⟩) | (refine ⟨Nat.le_of_ble_eq_true rfl, Nat.le_of_ble_eq_true rfl, Nat.le_of_ble_eq_true rfl, ?_⟩))
    (refine r_good0 M (fun h M F => ?_); replace G := m_frT G F)
    repeat (first | (refine hP _ _ _ _ _ _ ?_; conv => whnf) | (refine ⟨fun q => absurd q (by decide), fun _ => ?_⟩) | (refine ⟨fun _ => ?_, fun q => absurd (by decide) q⟩) | (refine ac_get M.1 ?_; conv => whnf) | (refine ⟨_, M.1, Nat.le_of_ble_eq_true rfl, Nat.le_of_ble_eq_true rfl, Nat.le_of_ble_eq_true rfl, ?_⟩) | (refine ⟨Nat.le_of_ble_eq_true rfl, Nat.le_of_ble_eq_true rfl, Nat.le_of_ble_eq_true rfl, ?_⟩))
    exact ⟨rfl, Or.inl rfl, h1 (Or.inl e) _ _ _ M G, by decide, by decide⟩
  | some i =>
    have hi := W.2.1 k i hk e
    repeat (first | (refine hP _ _ _ _ _ _ ?_; conv => whnf) | (refine ⟨fun q => absurd q (by decide), fun _ => ?_⟩) | (refine ⟨fun _ => ?_, fun q => absurd (by decide) q⟩) | (refine ac_get M.1 ?_; conv => whnf) | (refine ⟨_, M.1, Nat.le_of_ble_eq_true rfl, Nat.le_of_ble_eq_true rfl, Nat.le_of_ble_eq_true rfl, ?_⟩) | (refine ⟨Nat.le_of_ble_eq_true rfl, Nat.le_of_ble_eq_true rfl, Nat.le_of_ble_eq_true rfl, ?_⟩))
    refine br_f (m_rvS (m_w5 W hi)) ?_
    cases e2 : m_rg S t with
    | none =>
      repeat (first | (refine hP _ _ _ _ _ _ ?_; conv => whnf) | (refine ⟨fun q => absurd q (by decide), fun _ => ?_⟩) | (refine ⟨fun _ => ?_, fun q => absurd (by decide) q⟩) | (refine ac_get M.1 ?_; conv => whnf) | (refine ⟨_, M.1, Nat.le_of_ble_eq_true rfl, Nat.le_of_ble_eq_true rfl, Nat.le_of_ble_eq_true rfl, ?_⟩) | (refine ⟨Nat.le_of_ble_eq_true rfl, Nat.le_of_ble_eq_true rfl, Nat.le_of_ble_eq_true rfl, ?_⟩))
      (refine r_good0 M (fun h M F => ?_); replace G := m_frT G F)
      repeat (first | (refine hP _ _ _ _ _ _ ?_; conv => whnf) | (refine ⟨fun q => absurd q (by decide), fun _ => ?_⟩) | (refine ⟨fun _ => ?_, fun q => absurd (by decide) q⟩) | (refine ac_get M.1 ?_; conv => whnf) | (refine ⟨_, M.1, Nat.le_of_ble_eq_true rfl, Nat.le_of_ble_eq_true rfl, Nat.le_of_ble_eq_true rfl, ?_⟩) | (refine ⟨Nat.le_of_ble_eq_true rfl, Nat.le_of_ble_eq_true rfl, Nat.le_of_ble_eq_true rfl, ?_⟩))
      exact ⟨rfl, Or.inl rfl, h1 (Or.inr e2) _ _ _ M G, by decide, by decide⟩
    | some j =>
      have hj := W.2.1 t j ht e2
      have hki := (W.2.2 i hi).2.2.2.2.1
      have hkj := (W.2.2 j hj).2.2.2.2.1
      repeat (first | (refine hP _ _ _ _ _ _ ?_; conv => whnf) | (refine ⟨fun q => absurd q (by decide), fun _ => ?_⟩) | (refine ⟨fun _ => ?_, fun q => absurd (by decide) q⟩) | (refine ac_get M.1 ?_; conv => whnf) | (refine ⟨_, M.1, Nat.le_of_ble_eq_true rfl, Nat.le_of_ble_eq_true rfl, Nat.le_of_ble_eq_true rfl, ?_⟩) | (refine ⟨Nat.le_of_ble_eq_true rfl, Nat.le_of_ble_eq_true rfl, Nat.le_of_ble_eq_true rfl, ?_⟩))
      refine br_f (m_rvS (m_w5 W hj)) ?_
      repeat (first | (refine hP _ _ _ _ _ _ ?_; conv => whnf) | (refine ⟨fun q => absurd q (by decide), fun _ => ?_⟩) | (refine ⟨fun _ => ?_, fun q => absurd (by decide) q⟩) | (refine ac_get M.1 ?_; conv => whnf) | (refine ⟨_, M.1, Nat.le_of_ble_eq_true rfl, Nat.le_of_ble_eq_true rfl, Nat.le_of_ble_eq_true rfl, ?_⟩) | (refine ⟨Nat.le_of_ble_eq_true rfl, Nat.le_of_ble_eq_true rfl, Nat.le_of_ble_eq_true rfl, ?_⟩))
      (refine r_good1 M (fun h M F => ?_); replace G := m_frT G F)
      repeat (first | (refine hP _ _ _ _ _ _ ?_; conv => whnf) | (refine ⟨fun q => absurd q (by decide), fun _ => ?_⟩) | (refine ⟨fun _ => ?_, fun q => absurd (by decide) q⟩) | (refine ac_get M.1 ?_; conv => whnf) | (refine ⟨_, M.1, Nat.le_of_ble_eq_true rfl, Nat.le_of_ble_eq_true rfl, Nat.le_of_ble_eq_true rfl, ?_⟩) | (refine ⟨Nat.le_of_ble_eq_true rfl, Nat.le_of_ble_eq_true rfl, Nat.le_of_ble_eq_true rfl, ?_⟩))
      refine r_sort M W hi ?_
      repeat (first | (refine hP _ _ _ _ _ _ ?_; conv => whnf) | (refine ⟨fun q => absurd q (by decide), fun _ => ?_⟩) | (refine ⟨fun _ => ?_, fun q => absurd (by decide) q⟩) | (refine ac_get M.1 ?_; conv => whnf) | (refine ⟨_, M.1, Nat.le_of_ble_eq_true rfl, Nat.le_of_ble_eq_true rfl, Nat.le_of_ble_eq_true rfl, ?_⟩) | (refine ⟨Nat.le_of_ble_eq_true rfl, Nat.le_of_ble_eq_true rfl, Nat.le_of_ble_eq_true rfl, ?_⟩))
      refine ⟨fun q => ?_, fun q => ?_⟩
      · repeat (first | (refine hP _ _ _ _ _ _ ?_; conv => whnf) | (refine ⟨fun q => absurd q (by decide), fun _ => ?_⟩) | (refine ⟨fun _ => ?_, fun q => absurd (by decide) q⟩) | (refine ac_get M.1 ?_; conv => whnf) | (refine ⟨_, M.1, Nat.le_of_ble_eq_true rfl, Nat.le_of_ble_eq_true rfl, Nat.le_of_ble_eq_true rfl, ?_⟩) | (refine ⟨Nat.le_of_ble_eq_true rfl, Nat.le_of_ble_eq_true rfl, Nat.le_of_ble_eq_true rfl, ?_⟩))
        (refine r_good0 M (fun h M F => ?_); replace G := m_frT G F)
        repeat (first | (refine hP _ _ _ _ _ _ ?_; conv => whnf) | (refine ⟨fun q => absurd q (by decide), fun _ => ?_⟩) | (refine ⟨fun _ => ?_, fun q => absurd (by decide) q⟩) | (refine ac_get M.1 ?_; conv => whnf) | (refine ⟨_, M.1, Nat.le_of_ble_eq_true rfl, Nat.le_of_ble_eq_true rfl, Nat.le_of_ble_eq_true rfl, ?_⟩) | (refine ⟨Nat.le_of_ble_eq_true rfl, Nat.le_of_ble_eq_true rfl, Nat.le_of_ble_eq_true rfl, ?_⟩))
        exact ⟨rfl, Or.inl rfl, h2 i j e e2 (Or.inl ((nI_ltI hb (by omega)).mp q)) _ _ _ M G, by decide, by decide⟩
      · repeat (first | (refine hP _ _ _ _ _ _ ?_; conv => whnf) | (refine ⟨fun q => absurd q (by decide), fun _ => ?_⟩) | (refine ⟨fun _ => ?_, fun q => absurd (by decide) q⟩) | (refine ac_get M.1 ?_; conv => whnf) | (refine ⟨_, M.1, Nat.le_of_ble_eq_true rfl, Nat.le_of_ble_eq_true rfl, Nat.le_of_ble_eq_true rfl, ?_⟩) | (refine ⟨Nat.le_of_ble_eq_true rfl, Nat.le_of_ble_eq_true rfl, Nat.le_of_ble_eq_true rfl, ?_⟩))
        refine r_sort M W hj ?_
        repeat (first | (refine hP _ _ _ _ _ _ ?_; conv => whnf) | (refine ⟨fun q => absurd q (by decide), fun _ => ?_⟩) | (refine ⟨fun _ => ?_, fun q => absurd (by decide) q⟩) | (refine ac_get M.1 ?_; conv => whnf) | (refine ⟨_, M.1, Nat.le_of_ble_eq_true rfl, Nat.le_of_ble_eq_true rfl, Nat.le_of_ble_eq_true rfl, ?_⟩) | (refine ⟨Nat.le_of_ble_eq_true rfl, Nat.le_of_ble_eq_true rfl, Nat.le_of_ble_eq_true rfl, ?_⟩))
        refine ⟨fun q2 => ?_, fun q2 => ?_⟩
        · repeat (first | (refine hP _ _ _ _ _ _ ?_; conv => whnf) | (refine ⟨fun q => absurd q (by decide), fun _ => ?_⟩) | (refine ⟨fun _ => ?_, fun q => absurd (by decide) q⟩) | (refine ac_get M.1 ?_; conv => whnf) | (refine ⟨_, M.1, Nat.le_of_ble_eq_true rfl, Nat.le_of_ble_eq_true rfl, Nat.le_of_ble_eq_true rfl, ?_⟩) | (refine ⟨Nat.le_of_ble_eq_true rfl, Nat.le_of_ble_eq_true rfl, Nat.le_of_ble_eq_true rfl, ?_⟩))
          (refine r_good0 M (fun h M F => ?_); replace G := m_frT G F)
          repeat (first | (refine hP _ _ _ _ _ _ ?_; conv => whnf) | (refine ⟨fun q => absurd q (by decide), fun _ => ?_⟩) | (refine ⟨fun _ => ?_, fun q => absurd (by decide) q⟩) | (refine ac_get M.1 ?_; conv => whnf) | (refine ⟨_, M.1, Nat.le_of_ble_eq_true rfl, Nat.le_of_ble_eq_true rfl, Nat.le_of_ble_eq_true rfl, ?_⟩) | (refine ⟨Nat.le_of_ble_eq_true rfl, Nat.le_of_ble_eq_true rfl, Nat.le_of_ble_eq_true rfl, ?_⟩))
          exact ⟨rfl, Or.inl rfl, h2 i j e e2 (Or.inr ((nI_ltI hb (by omega)).mp q2)) _ _ _ M G, by decide, by decide⟩
        · repeat (first | (refine hP _ _ _ _ _ _ ?_; conv => whnf) | (refine ⟨fun q => absurd q (by decide), fun _ => ?_⟩) | (refine ⟨fun _ => ?_, fun q => absurd (by decide) q⟩) | (refine ac_get M.1 ?_; conv => whnf) | (refine ⟨_, M.1, Nat.le_of_ble_eq_true rfl, Nat.le_of_ble_eq_true rfl, Nat.le_of_ble_eq_true rfl, ?_⟩) | (refine ⟨Nat.le_of_ble_eq_true rfl, Nat.le_of_ble_eq_true rfl, Nat.le_of_ble_eq_true rfl, ?_⟩))
          (refine r_good1 M (fun h M F => ?_); replace G := m_frT G F)
          repeat (first | (refine hP _ _ _ _ _ _ ?_; conv => whnf) | (refine ⟨fun q => absurd q (by decide), fun _ => ?_⟩) | (refine ⟨fun _ => ?_, fun q => absurd (by decide) q⟩) | (refine ac_get M.1 ?_; conv => whnf) | (refine ⟨_, M.1, Nat.le_of_ble_eq_true rfl, Nat.le_of_ble_eq_true rfl, Nat.le_of_ble_eq_true rfl, ?_⟩) | (refine ⟨Nat.le_of_ble_eq_true rfl, Nat.le_of_ble_eq_true rfl, Nat.le_of_ble_eq_true rfl, ?_⟩))
          exact ⟨rfl, Or.inr rfl, h3 i j e e2 (fun z => z.elim (fun z => q ((nI_ltI hb (by omega)).mpr z)) (fun z => q2 ((nI_ltI hb (by omega)).mpr z))) _ _ _ M G, by decide, by decide⟩
theorem r_reckon {op : Nat} {p q : Int64} (ho : op < 5) (hq : 3 ≤ op → ¬ q = 0) (h1 : Q (.inl (some (.long (m_rck op p q)))) h) : T_X6_reckon [.int (nI op), .long p, .long q] h Q := by
  match op, ho with
  | 0, _ =>
    (intro P hP; conv => whnf)
    repeat (first | (refine hP _ _ _ _ _ _ ?_; conv => whnf) | (refine ⟨fun q => absurd q (by decide), fun _ => ?_⟩) | (refine ⟨fun _ => ?_, fun q => absurd (by decide) q⟩) | (refine ⟨_, by assumption, ?_⟩; conv => whnf))
    exact ⟨rfl, h1, by decide, by decide⟩
  | 1, _ =>
    (intro P hP; conv => whnf)
    repeat (first | (refine hP _ _ _ _ _ _ ?_; conv => whnf) | (refine ⟨fun q => absurd q (by decide), fun _ => ?_⟩) | (refine ⟨fun _ => ?_, fun q => absurd (by decide) q⟩) | (refine ⟨_, by assumption, ?_⟩; conv => whnf))
    exact ⟨rfl, h1, by decide, by decide⟩
  | 2, _ =>
    (intro P hP; conv => whnf)
    repeat (first | (refine hP _ _ _ _ _ _ ?_; conv => whnf) | (refine ⟨fun q => absurd q (by decide), fun _ => ?_⟩) | (refine ⟨fun _ => ?_, fun q => absurd (by decide) q⟩) | (refine ⟨_, by assumption, ?_⟩; conv => whnf))
    exact ⟨rfl, h1, by decide, by decide⟩
  | 3, _ =>
    (intro P hP; conv => whnf)
    repeat (first | (refine hP _ _ _ _ _ _ ?_; conv => whnf) | (refine ⟨fun q => absurd q (by decide), fun _ => ?_⟩) | (refine ⟨fun _ => ?_, fun q => absurd (by decide) q⟩) | (refine ⟨_, by assumption, ?_⟩; conv => whnf))
    refine ⟨fun c => ?_, fun c => ?_⟩
    · repeat (first | (refine hP _ _ _ _ _ _ ?_; conv => whnf) | (refine ⟨fun q => absurd q (by decide), fun _ => ?_⟩) | (refine ⟨fun _ => ?_, fun q => absurd (by decide) q⟩) | (refine ⟨_, by assumption, ?_⟩; conv => whnf))
      refine ⟨hq (by decide), ?_⟩
      repeat (first | (refine hP _ _ _ _ _ _ ?_; conv => whnf) | (refine ⟨fun q => absurd q (by decide), fun _ => ?_⟩) | (refine ⟨fun _ => ?_, fun q => absurd (by decide) q⟩) | (refine ⟨_, by assumption, ?_⟩; conv => whnf))
      exact ⟨rfl, h1, by decide, by decide⟩
    · have e : q = -1 := lg_cmp0.mp (Classical.byContradiction c)
      subst e
      repeat (first | (refine hP _ _ _ _ _ _ ?_; conv => whnf) | (refine ⟨fun q => absurd q (by decide), fun _ => ?_⟩) | (refine ⟨fun _ => ?_, fun q => absurd (by decide) q⟩) | (refine ⟨_, by assumption, ?_⟩; conv => whnf))
      have h2 : Q (.inl (some (.long (0 - p)))) h := by
        rw [← l_div1]
        exact h1
      exact ⟨rfl, h2, by decide, by decide⟩
  | 4, _ =>
    (intro P hP; conv => whnf)
    repeat (first | (refine hP _ _ _ _ _ _ ?_; conv => whnf) | (refine ⟨fun q => absurd q (by decide), fun _ => ?_⟩) | (refine ⟨fun _ => ?_, fun q => absurd (by decide) q⟩) | (refine ⟨_, by assumption, ?_⟩; conv => whnf))
    refine ⟨fun c => ?_, fun c => ?_⟩
    · repeat (first | (refine hP _ _ _ _ _ _ ?_; conv => whnf) | (refine ⟨fun q => absurd q (by decide), fun _ => ?_⟩) | (refine ⟨fun _ => ?_, fun q => absurd (by decide) q⟩) | (refine ⟨_, by assumption, ?_⟩; conv => whnf))
      refine ⟨hq (by decide), ?_⟩
      repeat (first | (refine hP _ _ _ _ _ _ ?_; conv => whnf) | (refine ⟨fun q => absurd q (by decide), fun _ => ?_⟩) | (refine ⟨fun _ => ?_, fun q => absurd (by decide) q⟩) | (refine ⟨_, by assumption, ?_⟩; conv => whnf))
      exact ⟨rfl, h1, by decide, by decide⟩
    · have e : q = -1 := lg_cmp0.mp (Classical.byContradiction c)
      subst e
      repeat (first | (refine hP _ _ _ _ _ _ ?_; conv => whnf) | (refine ⟨fun q => absurd q (by decide), fun _ => ?_⟩) | (refine ⟨fun _ => ?_, fun q => absurd (by decide) q⟩) | (refine ⟨_, by assumption, ?_⟩; conv => whnf))
      exact ⟨rfl, by rw [← l_rem1 p]; exact h1, by decide, by decide⟩
theorem m_ctne {i : Nat} {ix : Int32} (q : ¬ (m_pl S i ix).1 = 7) : ¬ m_ct 0 (m_pl S i ix).1 = 0 := by
  rcases m_pl3 (S := S) (i := i) (ix := ix) with z | z | z
  · rw [z]; decide
  · rw [z]; decide
  · exact absurd z q
theorem R_combine {h0 : ac_H} (M : m_md h0 mm ar S ve el co) (W : m_wf S) {op r ix o at' : Int32} (hQ : m_app (fun x a S' => ∀ h' ve el, m_md h' mm ar S' ve el (m_ct 0 x) → m_fr mm ar h0 h' → Q (.inl (some (.long a))) h') (f_combine S op r ix o at')) : T_X6_combine [.ref mm, .int op, .int r, .int ix, .int o, .int at'] h0 Q := by
  have G : m_fr mm ar h0 h0 := m_fr0
  unfold f_combine at hQ
  (intro P hP; conv => whnf)
  repeat (first | (refine hP _ _ _ _ _ _ ?_; conv => whnf) | (refine ⟨fun q => absurd q (by decide), fun _ => ?_⟩) | (refine ⟨fun _ => ?_, fun q => absurd (by decide) q⟩) | (refine ac_get M.1 ?_; conv => whnf) | (refine ⟨_, M.1, Nat.le_of_ble_eq_true rfl, Nat.le_of_ble_eq_true rfl, Nat.le_of_ble_eq_true rfl, ?_⟩) | (refine ⟨Nat.le_of_ble_eq_true rfl, Nat.le_of_ble_eq_true rfl, Nat.le_of_ble_eq_true rfl, ?_⟩))
  refine r_in (fun q => ?_) (fun q => ?_)
  · rw [if_pos (Or.inl ((m_badT (z := 5) (by decide) (by decide)).mp q))] at hQ
    repeat (first | (refine hP _ _ _ _ _ _ ?_; conv => whnf) | (refine ⟨fun q => absurd q (by decide), fun _ => ?_⟩) | (refine ⟨fun _ => ?_, fun q => absurd (by decide) q⟩) | (refine ac_get M.1 ?_; conv => whnf) | (refine ⟨_, M.1, Nat.le_of_ble_eq_true rfl, Nat.le_of_ble_eq_true rfl, Nat.le_of_ble_eq_true rfl, ?_⟩) | (refine ⟨Nat.le_of_ble_eq_true rfl, Nat.le_of_ble_eq_true rfl, Nat.le_of_ble_eq_true rfl, ?_⟩))
    (refine r_good0 M (fun h M F => ?_); replace G := m_frT G F)
    repeat (first | (refine hP _ _ _ _ _ _ ?_; conv => whnf) | (refine ⟨fun q => absurd q (by decide), fun _ => ?_⟩) | (refine ⟨fun _ => ?_, fun q => absurd (by decide) q⟩) | (refine ac_get M.1 ?_; conv => whnf) | (refine ⟨_, M.1, Nat.le_of_ble_eq_true rfl, Nat.le_of_ble_eq_true rfl, Nat.le_of_ble_eq_true rfl, ?_⟩) | (refine ⟨Nat.le_of_ble_eq_true rfl, Nat.le_of_ble_eq_true rfl, Nat.le_of_ble_eq_true rfl, ?_⟩))
    exact ⟨rfl, hQ _ _ _ M G, by decide, by decide⟩
  have q' : ¬ m_bad op 5 := fun z => q ((m_badT (z := 5) (by decide) (by decide)).mpr z)
  repeat (first | (refine hP _ _ _ _ _ _ ?_; conv => whnf) | (refine ⟨fun q => absurd q (by decide), fun _ => ?_⟩) | (refine ⟨fun _ => ?_, fun q => absurd (by decide) q⟩) | (refine ac_get M.1 ?_; conv => whnf) | (refine ⟨_, M.1, Nat.le_of_ble_eq_true rfl, Nat.le_of_ble_eq_true rfl, Nat.le_of_ble_eq_true rfl, ?_⟩) | (refine ⟨Nat.le_of_ble_eq_true rfl, Nat.le_of_ble_eq_true rfl, Nat.le_of_ble_eq_true rfl, ?_⟩))
  refine r_in (fun q2 => ?_) (fun q2 => ?_)
  · rw [if_pos (Or.inr (Or.inl (m_bad7.mp q2)))] at hQ
    repeat (first | (refine hP _ _ _ _ _ _ ?_; conv => whnf) | (refine ⟨fun q => absurd q (by decide), fun _ => ?_⟩) | (refine ⟨fun _ => ?_, fun q => absurd (by decide) q⟩) | (refine ac_get M.1 ?_; conv => whnf) | (refine ⟨_, M.1, Nat.le_of_ble_eq_true rfl, Nat.le_of_ble_eq_true rfl, Nat.le_of_ble_eq_true rfl, ?_⟩) | (refine ⟨Nat.le_of_ble_eq_true rfl, Nat.le_of_ble_eq_true rfl, Nat.le_of_ble_eq_true rfl, ?_⟩))
    (refine r_good0 M (fun h M F => ?_); replace G := m_frT G F)
    repeat (first | (refine hP _ _ _ _ _ _ ?_; conv => whnf) | (refine ⟨fun q => absurd q (by decide), fun _ => ?_⟩) | (refine ⟨fun _ => ?_, fun q => absurd (by decide) q⟩) | (refine ac_get M.1 ?_; conv => whnf) | (refine ⟨_, M.1, Nat.le_of_ble_eq_true rfl, Nat.le_of_ble_eq_true rfl, Nat.le_of_ble_eq_true rfl, ?_⟩) | (refine ⟨Nat.le_of_ble_eq_true rfl, Nat.le_of_ble_eq_true rfl, Nat.le_of_ble_eq_true rfl, ?_⟩))
    exact ⟨rfl, hQ _ _ _ M G, by decide, by decide⟩
  have q2' : ¬ m_bad r 8 := fun z => q2 (m_bad7.mpr z)
  repeat (first | (refine hP _ _ _ _ _ _ ?_; conv => whnf) | (refine ⟨fun q => absurd q (by decide), fun _ => ?_⟩) | (refine ⟨fun _ => ?_, fun q => absurd (by decide) q⟩) | (refine ac_get M.1 ?_; conv => whnf) | (refine ⟨_, M.1, Nat.le_of_ble_eq_true rfl, Nat.le_of_ble_eq_true rfl, Nat.le_of_ble_eq_true rfl, ?_⟩) | (refine ⟨Nat.le_of_ble_eq_true rfl, Nat.le_of_ble_eq_true rfl, Nat.le_of_ble_eq_true rfl, ?_⟩))
  refine r_in (fun q3 => ?_) (fun q3 => ?_)
  · rw [if_pos (Or.inr (Or.inr (m_bad7.mp q3)))] at hQ
    repeat (first | (refine hP _ _ _ _ _ _ ?_; conv => whnf) | (refine ⟨fun q => absurd q (by decide), fun _ => ?_⟩) | (refine ⟨fun _ => ?_, fun q => absurd (by decide) q⟩) | (refine ac_get M.1 ?_; conv => whnf) | (refine ⟨_, M.1, Nat.le_of_ble_eq_true rfl, Nat.le_of_ble_eq_true rfl, Nat.le_of_ble_eq_true rfl, ?_⟩) | (refine ⟨Nat.le_of_ble_eq_true rfl, Nat.le_of_ble_eq_true rfl, Nat.le_of_ble_eq_true rfl, ?_⟩))
    (refine r_good0 M (fun h M F => ?_); replace G := m_frT G F)
    repeat (first | (refine hP _ _ _ _ _ _ ?_; conv => whnf) | (refine ⟨fun q => absurd q (by decide), fun _ => ?_⟩) | (refine ⟨fun _ => ?_, fun q => absurd (by decide) q⟩) | (refine ac_get M.1 ?_; conv => whnf) | (refine ⟨_, M.1, Nat.le_of_ble_eq_true rfl, Nat.le_of_ble_eq_true rfl, Nat.le_of_ble_eq_true rfl, ?_⟩) | (refine ⟨Nat.le_of_ble_eq_true rfl, Nat.le_of_ble_eq_true rfl, Nat.le_of_ble_eq_true rfl, ?_⟩))
    exact ⟨rfl, hQ _ _ _ M G, by decide, by decide⟩
  have q3' : ¬ m_bad o 8 := fun z => q3 (m_bad7.mpr z)
  rw [if_neg (fun z => z.elim q' (fun z => z.elim q2' q3'))] at hQ
  obtain ⟨p, hp, rfl⟩ := m_badN (by decide) q'
  obtain ⟨k, hk, rfl⟩ := m_badN (by decide) q2'
  obtain ⟨t, ht, rfl⟩ := m_badN (by decide) q3'
  rw [nI_clamp (by omega), nI_clamp (by omega), nI_clamp (by omega)] at hQ
  have hN : (m_rg S k = none ∨ m_rg S t = none) → ∀ h' ve el, m_md h' mm ar S ve el 2 → m_fr mm ar h0 h' → Q (.inl (some (.long 0))) h' := by
    intro e
    rcases e with e | e
    · rw [e] at hQ
      exact hQ
    · cases e3 : m_rg S k with
      | none =>
        rw [e3] at hQ
        exact hQ
      | some i =>
        rw [e3] at hQ
        replace hQ : m_app _ (m_ns 0 S (m_rg S t) (fun j => j_combine S p ix at' i j)) := hQ
        rw [e] at hQ
        exact hQ
  repeat (first | (refine hP _ _ _ _ _ _ ?_; conv => whnf) | (refine ⟨fun q => absurd q (by decide), fun _ => ?_⟩) | (refine ⟨fun _ => ?_, fun q => absurd (by decide) q⟩) | (refine ac_get M.1 ?_; conv => whnf) | (refine ⟨_, M.1, Nat.le_of_ble_eq_true rfl, Nat.le_of_ble_eq_true rfl, Nat.le_of_ble_eq_true rfl, ?_⟩) | (refine ⟨Nat.le_of_ble_eq_true rfl, Nat.le_of_ble_eq_true rfl, Nat.le_of_ble_eq_true rfl, ?_⟩))
  (refine r_good1 M (fun h M F => ?_); replace G := m_frT G F)
  repeat (first | (refine hP _ _ _ _ _ _ ?_; conv => whnf) | (refine ⟨fun q => absurd q (by decide), fun _ => ?_⟩) | (refine ⟨fun _ => ?_, fun q => absurd (by decide) q⟩) | (refine ac_get M.1 ?_; conv => whnf) | (refine ⟨_, M.1, Nat.le_of_ble_eq_true rfl, Nat.le_of_ble_eq_true rfl, Nat.le_of_ble_eq_true rfl, ?_⟩) | (refine ⟨Nat.le_of_ble_eq_true rfl, Nat.le_of_ble_eq_true rfl, Nat.le_of_ble_eq_true rfl, ?_⟩))
  refine r_both M W hk ht (b := 5) (by decide) (fun e h ve el M F => ?_) (fun i j e e2 q h ve el M F => ?_) (fun i j e e2 q h ve el M F => ?_)
  · replace G := m_frT G F
    repeat (first | (refine hP _ _ _ _ _ _ ?_; conv => whnf) | (refine ⟨fun q => absurd q (by decide), fun _ => ?_⟩) | (refine ⟨fun _ => ?_, fun q => absurd (by decide) q⟩) | (refine ac_get M.1 ?_; conv => whnf) | (refine ⟨_, M.1, Nat.le_of_ble_eq_true rfl, Nat.le_of_ble_eq_true rfl, Nat.le_of_ble_eq_true rfl, ?_⟩) | (refine ⟨Nat.le_of_ble_eq_true rfl, Nat.le_of_ble_eq_true rfl, Nat.le_of_ble_eq_true rfl, ?_⟩))
    exact ⟨rfl, hN e _ _ _ M G, by decide, by decide⟩
  · replace G := m_frT G F
    rw [e] at hQ
    replace hQ : m_app _ (m_ns 0 S (m_rg S t) (fun j => j_combine S p ix at' i j)) := hQ
    rw [e2] at hQ
    replace hQ : m_app _ (j_combine S p ix at' i j) := hQ
    unfold j_combine at hQ
    rw [if_pos q] at hQ
    repeat (first | (refine hP _ _ _ _ _ _ ?_; conv => whnf) | (refine ⟨fun q => absurd q (by decide), fun _ => ?_⟩) | (refine ⟨fun _ => ?_, fun q => absurd (by decide) q⟩) | (refine ac_get M.1 ?_; conv => whnf) | (refine ⟨_, M.1, Nat.le_of_ble_eq_true rfl, Nat.le_of_ble_eq_true rfl, Nat.le_of_ble_eq_true rfl, ?_⟩) | (refine ⟨Nat.le_of_ble_eq_true rfl, Nat.le_of_ble_eq_true rfl, Nat.le_of_ble_eq_true rfl, ?_⟩))
    exact ⟨rfl, hQ _ _ _ M G, by decide, by decide⟩
  replace G := m_frT G F
  rw [e] at hQ
  replace hQ : m_app _ (m_ns 0 S (m_rg S t) (fun j => j_combine S p ix at' i j)) := hQ
  rw [e2] at hQ
  replace hQ : m_app _ (j_combine S p ix at' i j) := hQ
  unfold j_combine at hQ
  rw [if_neg q] at hQ
  have hi := W.2.1 k i hk e
  have hj := W.2.1 t j ht e2
  have gi := m_wg W hi
  have gj := m_wg W hj
  have li := (W.2.2 _ gi).2.1
  have lj := (W.2.2 _ gj).2.1
  repeat (first | (refine hP _ _ _ _ _ _ ?_; conv => whnf) | (refine ⟨fun q => absurd q (by decide), fun _ => ?_⟩) | (refine ⟨fun _ => ?_, fun q => absurd (by decide) q⟩) | (refine ac_get M.1 ?_; conv => whnf) | (refine ⟨_, M.1, Nat.le_of_ble_eq_true rfl, Nat.le_of_ble_eq_true rfl, Nat.le_of_ble_eq_true rfl, ?_⟩) | (refine ⟨Nat.le_of_ble_eq_true rfl, Nat.le_of_ble_eq_true rfl, Nat.le_of_ble_eq_true rfl, ?_⟩))
  refine md_rg M rfl hk ?_
  rw [e]
  repeat (first | (refine hP _ _ _ _ _ _ ?_; conv => whnf) | (refine ⟨fun q => absurd q (by decide), fun _ => ?_⟩) | (refine ⟨fun _ => ?_, fun q => absurd (by decide) q⟩) | (refine ac_get M.1 ?_; conv => whnf) | (refine ⟨_, M.1, Nat.le_of_ble_eq_true rfl, Nat.le_of_ble_eq_true rfl, Nat.le_of_ble_eq_true rfl, ?_⟩) | (refine ⟨Nat.le_of_ble_eq_true rfl, Nat.le_of_ble_eq_true rfl, Nat.le_of_ble_eq_true rfl, ?_⟩))
  refine r_sort M W hi ?_
  have T : ∀ b : Int32, (∀ x : Int64, (¬ b = 0 → m_cv S i j x = x.toInt32.toInt64) ∧ (b = 0 → m_cv S i j x = x)) → P 90 [some (.ref mm), some (.int (nI p)), some (.int (nI k)), some (.int ix), some (.int (nI t)), some (.int at'), none, none, none, none, none, none, none, none, none] [.int b] h 0 0 := by
    intro b hb
    repeat (first | (refine hP _ _ _ _ _ _ ?_; conv => whnf) | (refine ⟨fun q => absurd q (by decide), fun _ => ?_⟩) | (refine ⟨fun _ => ?_, fun q => absurd (by decide) q⟩) | (refine ac_get M.1 ?_; conv => whnf) | (refine ⟨_, M.1, Nat.le_of_ble_eq_true rfl, Nat.le_of_ble_eq_true rfl, Nat.le_of_ble_eq_true rfl, ?_⟩) | (refine ⟨Nat.le_of_ble_eq_true rfl, Nat.le_of_ble_eq_true rfl, Nat.le_of_ble_eq_true rfl, ?_⟩))
    refine md_rg M rfl hk ?_
    rw [e]
    repeat (first | (refine hP _ _ _ _ _ _ ?_; conv => whnf) | (refine ⟨fun q => absurd q (by decide), fun _ => ?_⟩) | (refine ⟨fun _ => ?_, fun q => absurd (by decide) q⟩) | (refine ac_get M.1 ?_; conv => whnf) | (refine ⟨_, M.1, Nat.le_of_ble_eq_true rfl, Nat.le_of_ble_eq_true rfl, Nat.le_of_ble_eq_true rfl, ?_⟩) | (refine ⟨Nat.le_of_ble_eq_true rfl, Nat.le_of_ble_eq_true rfl, Nat.le_of_ble_eq_true rfl, ?_⟩))
    refine r_find M W hi (fun h M F => ?_)
    replace G := m_frT G F
    repeat (first | (refine hP _ _ _ _ _ _ ?_; conv => whnf) | (refine ⟨fun q => absurd q (by decide), fun _ => ?_⟩) | (refine ⟨fun _ => ?_, fun q => absurd (by decide) q⟩) | (refine ac_get M.1 ?_; conv => whnf) | (refine ⟨_, M.1, Nat.le_of_ble_eq_true rfl, Nat.le_of_ble_eq_true rfl, Nat.le_of_ble_eq_true rfl, ?_⟩) | (refine ⟨Nat.le_of_ble_eq_true rfl, Nat.le_of_ble_eq_true rfl, Nat.le_of_ble_eq_true rfl, ?_⟩))
    refine md_wco M (fun h M F => ?_)
    replace G := m_frT G F
    repeat (first | (refine hP _ _ _ _ _ _ ?_; conv => whnf) | (refine ⟨fun q => absurd q (by decide), fun _ => ?_⟩) | (refine ⟨fun _ => ?_, fun q => absurd (by decide) q⟩) | (refine ac_get M.1 ?_; conv => whnf) | (refine ⟨_, M.1, Nat.le_of_ble_eq_true rfl, Nat.le_of_ble_eq_true rfl, Nat.le_of_ble_eq_true rfl, ?_⟩) | (refine ⟨Nat.le_of_ble_eq_true rfl, Nat.le_of_ble_eq_true rfl, Nat.le_of_ble_eq_true rfl, ?_⟩))
    by_cases c1 : (m_pl S i ix).1 = 7
    · rw [if_neg (fun z => z c1)] at hQ
      rw [c1] at M ⊢
      obtain ⟨p1, p2, p3⟩ := m_pl7 W hi c1
      rw [p3] at M
      repeat (first | (refine hP _ _ _ _ _ _ ?_; conv => whnf) | (refine ⟨fun q => absurd q (by decide), fun _ => ?_⟩) | (refine ⟨fun _ => ?_, fun q => absurd (by decide) q⟩) | (refine ac_get M.1 ?_; conv => whnf) | (refine ⟨_, M.1, Nat.le_of_ble_eq_true rfl, Nat.le_of_ble_eq_true rfl, Nat.le_of_ble_eq_true rfl, ?_⟩) | (refine ⟨Nat.le_of_ble_eq_true rfl, Nat.le_of_ble_eq_true rfl, Nat.le_of_ble_eq_true rfl, ?_⟩))
      refine r_here M (m_w5 W gi) (by omega) ?_
      repeat (first | (refine hP _ _ _ _ _ _ ?_; conv => whnf) | (refine ⟨fun q => absurd q (by decide), fun _ => ?_⟩) | (refine ⟨fun _ => ?_, fun q => absurd (by decide) q⟩) | (refine ac_get M.1 ?_; conv => whnf) | (refine ⟨_, M.1, Nat.le_of_ble_eq_true rfl, Nat.le_of_ble_eq_true rfl, Nat.le_of_ble_eq_true rfl, ?_⟩) | (refine ⟨Nat.le_of_ble_eq_true rfl, Nat.le_of_ble_eq_true rfl, Nat.le_of_ble_eq_true rfl, ?_⟩))
      refine md_rg M rfl ht ?_
      rw [e2]
      repeat (first | (refine hP _ _ _ _ _ _ ?_; conv => whnf) | (refine ⟨fun q => absurd q (by decide), fun _ => ?_⟩) | (refine ⟨fun _ => ?_, fun q => absurd (by decide) q⟩) | (refine ac_get M.1 ?_; conv => whnf) | (refine ⟨_, M.1, Nat.le_of_ble_eq_true rfl, Nat.le_of_ble_eq_true rfl, Nat.le_of_ble_eq_true rfl, ?_⟩) | (refine ⟨Nat.le_of_ble_eq_true rfl, Nat.le_of_ble_eq_true rfl, Nat.le_of_ble_eq_true rfl, ?_⟩))
      refine r_find M W hj (fun h M F => ?_)
      replace G := m_frT G F
      repeat (first | (refine hP _ _ _ _ _ _ ?_; conv => whnf) | (refine ⟨fun q => absurd q (by decide), fun _ => ?_⟩) | (refine ⟨fun _ => ?_, fun q => absurd (by decide) q⟩) | (refine ac_get M.1 ?_; conv => whnf) | (refine ⟨_, M.1, Nat.le_of_ble_eq_true rfl, Nat.le_of_ble_eq_true rfl, Nat.le_of_ble_eq_true rfl, ?_⟩) | (refine ⟨Nat.le_of_ble_eq_true rfl, Nat.le_of_ble_eq_true rfl, Nat.le_of_ble_eq_true rfl, ?_⟩))
      refine md_wco M (fun h M F => ?_)
      replace G := m_frT G F
      repeat (first | (refine hP _ _ _ _ _ _ ?_; conv => whnf) | (refine ⟨fun q => absurd q (by decide), fun _ => ?_⟩) | (refine ⟨fun _ => ?_, fun q => absurd (by decide) q⟩) | (refine ac_get M.1 ?_; conv => whnf) | (refine ⟨_, M.1, Nat.le_of_ble_eq_true rfl, Nat.le_of_ble_eq_true rfl, Nat.le_of_ble_eq_true rfl, ?_⟩) | (refine ⟨Nat.le_of_ble_eq_true rfl, Nat.le_of_ble_eq_true rfl, Nat.le_of_ble_eq_true rfl, ?_⟩))
      by_cases c2 : (m_pl S j at').1 = 7
      · rw [if_neg (fun z => z c2)] at hQ
        rw [c2] at M ⊢
        obtain ⟨u1, u2, u3⟩ := m_pl7 W hj c2
        rw [u3] at M
        repeat (first | (refine hP _ _ _ _ _ _ ?_; conv => whnf) | (refine ⟨fun q => absurd q (by decide), fun _ => ?_⟩) | (refine ⟨fun _ => ?_, fun q => absurd (by decide) q⟩) | (refine ac_get M.1 ?_; conv => whnf) | (refine ⟨_, M.1, Nat.le_of_ble_eq_true rfl, Nat.le_of_ble_eq_true rfl, Nat.le_of_ble_eq_true rfl, ?_⟩) | (refine ⟨Nat.le_of_ble_eq_true rfl, Nat.le_of_ble_eq_true rfl, Nat.le_of_ble_eq_true rfl, ?_⟩))
        refine r_here M (m_w5 W gj) (by omega) ?_
        repeat (first | (refine hP _ _ _ _ _ _ ?_; conv => whnf) | (refine ⟨fun q => absurd q (by decide), fun _ => ?_⟩) | (refine ⟨fun _ => ?_, fun q => absurd (by decide) q⟩) | (refine ac_get M.1 ?_; conv => whnf) | (refine ⟨_, M.1, Nat.le_of_ble_eq_true rfl, Nat.le_of_ble_eq_true rfl, Nat.le_of_ble_eq_true rfl, ?_⟩) | (refine ⟨Nat.le_of_ble_eq_true rfl, Nat.le_of_ble_eq_true rfl, Nat.le_of_ble_eq_true rfl, ?_⟩))
        have T2 : ¬ (3 ≤ p ∧ m_st S (24 * m_gr S j + (m_pl S j at').2) = 0) → ∀ hx ve el, m_md hx mm ar S ve el 0 → m_fr mm ar h0 hx → P 193 [some (.ref mm), some (.int (nI p)), some (.int (nI k)), some (.int ix), some (.int (nI t)), some (.int at'), some (.int b), some (.long (m_st S (24 * m_gr S i + (m_pl S i ix).2))), none, some (.int (nI (m_gr S i))), some (.int (nI (m_pl S i ix).2)), some (.long (m_st S (24 * m_gr S j + (m_pl S j at').2))), none, none, none] [] hx 0 0 := by
          intro q hx ve el M G
          rw [if_neg q] at hQ
          repeat (first | (refine hP _ _ _ _ _ _ ?_; conv => whnf) | (refine ⟨fun q => absurd q (by decide), fun _ => ?_⟩) | (refine ⟨fun _ => ?_, fun q => absurd (by decide) q⟩) | (refine ac_get M.1 ?_; conv => whnf) | (refine ⟨_, M.1, Nat.le_of_ble_eq_true rfl, Nat.le_of_ble_eq_true rfl, Nat.le_of_ble_eq_true rfl, ?_⟩) | (refine ⟨Nat.le_of_ble_eq_true rfl, Nat.le_of_ble_eq_true rfl, Nat.le_of_ble_eq_true rfl, ?_⟩))
          refine r_reckon hp (fun z1 z2 => q ⟨z1, z2⟩) ?_
          repeat (first | (refine hP _ _ _ _ _ _ ?_; conv => whnf) | (refine ⟨fun q => absurd q (by decide), fun _ => ?_⟩) | (refine ⟨fun _ => ?_, fun q => absurd (by decide) q⟩) | (refine ac_get M.1 ?_; conv => whnf) | (refine ⟨_, M.1, Nat.le_of_ble_eq_true rfl, Nat.le_of_ble_eq_true rfl, Nat.le_of_ble_eq_true rfl, ?_⟩) | (refine ⟨Nat.le_of_ble_eq_true rfl, Nat.le_of_ble_eq_true rfl, Nat.le_of_ble_eq_true rfl, ?_⟩))
          refine md_wve M (fun h M F => ?_)
          replace G := m_frT G F
          repeat (first | (refine hP _ _ _ _ _ _ ?_; conv => whnf) | (refine ⟨fun q => absurd q (by decide), fun _ => ?_⟩) | (refine ⟨fun _ => ?_, fun q => absurd (by decide) q⟩) | (refine ac_get M.1 ?_; conv => whnf) | (refine ⟨_, M.1, Nat.le_of_ble_eq_true rfl, Nat.le_of_ble_eq_true rfl, Nat.le_of_ble_eq_true rfl, ?_⟩) | (refine ⟨Nat.le_of_ble_eq_true rfl, Nat.le_of_ble_eq_true rfl, Nat.le_of_ble_eq_true rfl, ?_⟩))
          refine md_wel M (fun h M F => ?_)
          replace G := m_frT G F
          repeat (first | (refine hP _ _ _ _ _ _ ?_; conv => whnf) | (refine ⟨fun q => absurd q (by decide), fun _ => ?_⟩) | (refine ⟨fun _ => ?_, fun q => absurd (by decide) q⟩) | (refine ac_get M.1 ?_; conv => whnf) | (refine ⟨_, M.1, Nat.le_of_ble_eq_true rfl, Nat.le_of_ble_eq_true rfl, Nat.le_of_ble_eq_true rfl, ?_⟩) | (refine ⟨Nat.le_of_ble_eq_true rfl, Nat.le_of_ble_eq_true rfl, Nat.le_of_ble_eq_true rfl, ?_⟩))
          refine ⟨fun b0 => ?_, fun b0 => ?_⟩
          · rw [(hb _).2 b0] at hQ
            repeat (first | (refine hP _ _ _ _ _ _ ?_; conv => whnf) | (refine ⟨fun q => absurd q (by decide), fun _ => ?_⟩) | (refine ⟨fun _ => ?_, fun q => absurd (by decide) q⟩) | (refine ac_get M.1 ?_; conv => whnf) | (refine ⟨_, M.1, Nat.le_of_ble_eq_true rfl, Nat.le_of_ble_eq_true rfl, Nat.le_of_ble_eq_true rfl, ?_⟩) | (refine ⟨Nat.le_of_ble_eq_true rfl, Nat.le_of_ble_eq_true rfl, Nat.le_of_ble_eq_true rfl, ?_⟩))
            refine r_set M (m_w5 W gi) (by omega) (by omega) (fun h M F => ?_)
            replace G := m_frT G F
            repeat (first | (refine hP _ _ _ _ _ _ ?_; conv => whnf) | (refine ⟨fun q => absurd q (by decide), fun _ => ?_⟩) | (refine ⟨fun _ => ?_, fun q => absurd (by decide) q⟩) | (refine ac_get M.1 ?_; conv => whnf) | (refine ⟨_, M.1, Nat.le_of_ble_eq_true rfl, Nat.le_of_ble_eq_true rfl, Nat.le_of_ble_eq_true rfl, ?_⟩) | (refine ⟨Nat.le_of_ble_eq_true rfl, Nat.le_of_ble_eq_true rfl, Nat.le_of_ble_eq_true rfl, ?_⟩))
            exact ⟨rfl, hQ _ _ _ M G, by decide, by decide⟩
          · rw [(hb _).1 b0] at hQ
            repeat (first | (refine hP _ _ _ _ _ _ ?_; conv => whnf) | (refine ⟨fun q => absurd q (by decide), fun _ => ?_⟩) | (refine ⟨fun _ => ?_, fun q => absurd (by decide) q⟩) | (refine ac_get M.1 ?_; conv => whnf) | (refine ⟨_, M.1, Nat.le_of_ble_eq_true rfl, Nat.le_of_ble_eq_true rfl, Nat.le_of_ble_eq_true rfl, ?_⟩) | (refine ⟨Nat.le_of_ble_eq_true rfl, Nat.le_of_ble_eq_true rfl, Nat.le_of_ble_eq_true rfl, ?_⟩))
            refine r_set M (m_w5 W gi) (by omega) (by omega) (fun h M F => ?_)
            replace G := m_frT G F
            repeat (first | (refine hP _ _ _ _ _ _ ?_; conv => whnf) | (refine ⟨fun q => absurd q (by decide), fun _ => ?_⟩) | (refine ⟨fun _ => ?_, fun q => absurd (by decide) q⟩) | (refine ac_get M.1 ?_; conv => whnf) | (refine ⟨_, M.1, Nat.le_of_ble_eq_true rfl, Nat.le_of_ble_eq_true rfl, Nat.le_of_ble_eq_true rfl, ?_⟩) | (refine ⟨Nat.le_of_ble_eq_true rfl, Nat.le_of_ble_eq_true rfl, Nat.le_of_ble_eq_true rfl, ?_⟩))
            exact ⟨rfl, hQ _ _ _ M G, by decide, by decide⟩
        refine ⟨fun c3 => ?_, fun c3 => ?_⟩
        · repeat (first | (refine hP _ _ _ _ _ _ ?_; conv => whnf) | (refine ⟨fun q => absurd q (by decide), fun _ => ?_⟩) | (refine ⟨fun _ => ?_, fun q => absurd (by decide) q⟩) | (refine ac_get M.1 ?_; conv => whnf) | (refine ⟨_, M.1, Nat.le_of_ble_eq_true rfl, Nat.le_of_ble_eq_true rfl, Nat.le_of_ble_eq_true rfl, ?_⟩) | (refine ⟨Nat.le_of_ble_eq_true rfl, Nat.le_of_ble_eq_true rfl, Nat.le_of_ble_eq_true rfl, ?_⟩))
          (refine r_good1 M (fun h M F => ?_); replace G := m_frT G F)
          iterate 1 (refine hP _ _ _ _ _ _ ?_; conv => whnf)
          refine ⟨fun _ => ?_, fun q => absurd (by decide) q⟩
          exact T2 (fun z => c3 |> fun c3 => by have := (nI_ltI (b := 3) (by omega) (by decide)).mp c3; omega) _ _ _ M G
        · have c3' : 3 ≤ p := by
            have : ¬ p < 3 := fun z => c3 (nI_lt (b := 3) z (by decide))
            omega
          repeat (first | (refine hP _ _ _ _ _ _ ?_; conv => whnf) | (refine ⟨fun q => absurd q (by decide), fun _ => ?_⟩) | (refine ⟨fun _ => ?_, fun q => absurd (by decide) q⟩) | (refine ac_get M.1 ?_; conv => whnf) | (refine ⟨_, M.1, Nat.le_of_ble_eq_true rfl, Nat.le_of_ble_eq_true rfl, Nat.le_of_ble_eq_true rfl, ?_⟩) | (refine ⟨Nat.le_of_ble_eq_true rfl, Nat.le_of_ble_eq_true rfl, Nat.le_of_ble_eq_true rfl, ?_⟩))
          refine ⟨fun c4 => ?_, fun c4 => ?_⟩
          · rw [if_pos ⟨c3', lg_cmp0.mp c4⟩] at hQ
            repeat (first | (refine hP _ _ _ _ _ _ ?_; conv => whnf) | (refine ⟨fun q => absurd q (by decide), fun _ => ?_⟩) | (refine ⟨fun _ => ?_, fun q => absurd (by decide) q⟩) | (refine ac_get M.1 ?_; conv => whnf) | (refine ⟨_, M.1, Nat.le_of_ble_eq_true rfl, Nat.le_of_ble_eq_true rfl, Nat.le_of_ble_eq_true rfl, ?_⟩) | (refine ⟨Nat.le_of_ble_eq_true rfl, Nat.le_of_ble_eq_true rfl, Nat.le_of_ble_eq_true rfl, ?_⟩))
            (refine r_good0 M (fun h M F => ?_); replace G := m_frT G F)
            repeat (first | (refine hP _ _ _ _ _ _ ?_; conv => whnf) | (refine ⟨fun q => absurd q (by decide), fun _ => ?_⟩) | (refine ⟨fun _ => ?_, fun q => absurd (by decide) q⟩) | (refine ac_get M.1 ?_; conv => whnf) | (refine ⟨_, M.1, Nat.le_of_ble_eq_true rfl, Nat.le_of_ble_eq_true rfl, Nat.le_of_ble_eq_true rfl, ?_⟩) | (refine ⟨Nat.le_of_ble_eq_true rfl, Nat.le_of_ble_eq_true rfl, Nat.le_of_ble_eq_true rfl, ?_⟩))
            exact ⟨rfl, hQ _ _ _ M G, by decide, by decide⟩
          · repeat (first | (refine hP _ _ _ _ _ _ ?_; conv => whnf) | (refine ⟨fun q => absurd q (by decide), fun _ => ?_⟩) | (refine ⟨fun _ => ?_, fun q => absurd (by decide) q⟩) | (refine ac_get M.1 ?_; conv => whnf) | (refine ⟨_, M.1, Nat.le_of_ble_eq_true rfl, Nat.le_of_ble_eq_true rfl, Nat.le_of_ble_eq_true rfl, ?_⟩) | (refine ⟨Nat.le_of_ble_eq_true rfl, Nat.le_of_ble_eq_true rfl, Nat.le_of_ble_eq_true rfl, ?_⟩))
            (refine r_good1 M (fun h M F => ?_); replace G := m_frT G F)
            iterate 1 (refine hP _ _ _ _ _ _ ?_; conv => whnf)
            refine ⟨fun _ => ?_, fun q => absurd (by decide) q⟩
            exact T2 (fun z => c4 (lg_cmp0.mpr z.2)) _ _ _ M G
      · rw [if_pos c2] at hQ
        refine br_f (m_ctne c2) ?_
        repeat (first | (refine hP _ _ _ _ _ _ ?_; conv => whnf) | (refine ⟨fun q => absurd q (by decide), fun _ => ?_⟩) | (refine ⟨fun _ => ?_, fun q => absurd (by decide) q⟩) | (refine ac_get M.1 ?_; conv => whnf) | (refine ⟨_, M.1, Nat.le_of_ble_eq_true rfl, Nat.le_of_ble_eq_true rfl, Nat.le_of_ble_eq_true rfl, ?_⟩) | (refine ⟨Nat.le_of_ble_eq_true rfl, Nat.le_of_ble_eq_true rfl, Nat.le_of_ble_eq_true rfl, ?_⟩))
        exact ⟨rfl, hQ _ _ _ M G, by decide, by decide⟩
    · rw [if_pos c1] at hQ
      refine br_f (m_ctne c1) ?_
      repeat (first | (refine hP _ _ _ _ _ _ ?_; conv => whnf) | (refine ⟨fun q => absurd q (by decide), fun _ => ?_⟩) | (refine ⟨fun _ => ?_, fun q => absurd (by decide) q⟩) | (refine ac_get M.1 ?_; conv => whnf) | (refine ⟨_, M.1, Nat.le_of_ble_eq_true rfl, Nat.le_of_ble_eq_true rfl, Nat.le_of_ble_eq_true rfl, ?_⟩) | (refine ⟨Nat.le_of_ble_eq_true rfl, Nat.le_of_ble_eq_true rfl, Nat.le_of_ble_eq_true rfl, ?_⟩))
      exact ⟨rfl, hQ _ _ _ M G, by decide, by decide⟩
  have kgi := (W.2.2 i hi).2.2.2.2.1
  have kgj := (W.2.2 j hj).2.2.2.2.1
  repeat (first | (refine hP _ _ _ _ _ _ ?_; conv => whnf) | (refine ⟨fun q => absurd q (by decide), fun _ => ?_⟩) | (refine ⟨fun _ => ?_, fun q => absurd (by decide) q⟩) | (refine ac_get M.1 ?_; conv => whnf) | (refine ⟨_, M.1, Nat.le_of_ble_eq_true rfl, Nat.le_of_ble_eq_true rfl, Nat.le_of_ble_eq_true rfl, ?_⟩) | (refine ⟨Nat.le_of_ble_eq_true rfl, Nat.le_of_ble_eq_true rfl, Nat.le_of_ble_eq_true rfl, ?_⟩))
  by_cases c5 : 5 ≤ m_kd S (m_gr S i)
  · refine br_t (nI_le (a := 5) c5 (by omega)) ?_
    iterate 1 (refine hP _ _ _ _ _ _ ?_; conv => whnf)
    exact T 0 (fun x => ⟨fun z => absurd rfl z, fun _ => if_neg (by omega)⟩)
  · refine br_f (nI_ge (b := 5) (by omega) (by decide)) ?_
    repeat (first | (refine hP _ _ _ _ _ _ ?_; conv => whnf) | (refine ⟨fun q => absurd q (by decide), fun _ => ?_⟩) | (refine ⟨fun _ => ?_, fun q => absurd (by decide) q⟩) | (refine ac_get M.1 ?_; conv => whnf) | (refine ⟨_, M.1, Nat.le_of_ble_eq_true rfl, Nat.le_of_ble_eq_true rfl, Nat.le_of_ble_eq_true rfl, ?_⟩) | (refine ⟨Nat.le_of_ble_eq_true rfl, Nat.le_of_ble_eq_true rfl, Nat.le_of_ble_eq_true rfl, ?_⟩))
    refine md_rg M rfl ht ?_
    rw [e2]
    repeat (first | (refine hP _ _ _ _ _ _ ?_; conv => whnf) | (refine ⟨fun q => absurd q (by decide), fun _ => ?_⟩) | (refine ⟨fun _ => ?_, fun q => absurd (by decide) q⟩) | (refine ac_get M.1 ?_; conv => whnf) | (refine ⟨_, M.1, Nat.le_of_ble_eq_true rfl, Nat.le_of_ble_eq_true rfl, Nat.le_of_ble_eq_true rfl, ?_⟩) | (refine ⟨Nat.le_of_ble_eq_true rfl, Nat.le_of_ble_eq_true rfl, Nat.le_of_ble_eq_true rfl, ?_⟩))
    refine r_sort M W hj ?_
    repeat (first | (refine hP _ _ _ _ _ _ ?_; conv => whnf) | (refine ⟨fun q => absurd q (by decide), fun _ => ?_⟩) | (refine ⟨fun _ => ?_, fun q => absurd (by decide) q⟩) | (refine ac_get M.1 ?_; conv => whnf) | (refine ⟨_, M.1, Nat.le_of_ble_eq_true rfl, Nat.le_of_ble_eq_true rfl, Nat.le_of_ble_eq_true rfl, ?_⟩) | (refine ⟨Nat.le_of_ble_eq_true rfl, Nat.le_of_ble_eq_true rfl, Nat.le_of_ble_eq_true rfl, ?_⟩))
    by_cases c6 : 5 ≤ m_kd S (m_gr S j)
    · refine br_t (nI_le (a := 5) c6 (by omega)) ?_
      iterate 1 (refine hP _ _ _ _ _ _ ?_; conv => whnf)
      exact T 0 (fun x => ⟨fun z => absurd rfl z, fun _ => if_neg (by omega)⟩)
    · refine br_f (nI_ge (b := 5) (by omega) (by decide)) ?_
      iterate 2 (refine hP _ _ _ _ _ _ ?_; conv => whnf)
      exact T 1 (fun x => ⟨fun _ => if_pos (by omega), fun z => absurd z (by decide)⟩)
theorem R_move {h0 : ac_H} (M : m_md h0 mm ar S ve el co) (W : m_wf S) {r ix o at' n : Int32} (hQ : m_app (fun x a S' => ∀ h' ve el, m_md h' mm ar S' ve el (m_ct 0 x) → m_fr mm ar h0 h' → Q (.inl (some (.int a))) h') (f_move S r ix o at' n)) : T_X6_move [.ref mm, .int r, .int ix, .int o, .int at', .int n] h0 Q := by
  have G : m_fr mm ar h0 h0 := m_fr0
  unfold f_move at hQ
  (intro P hP; conv => whnf)
  repeat (first | (refine hP _ _ _ _ _ _ ?_; conv => whnf) | (refine ⟨fun q => absurd q (by decide), fun _ => ?_⟩) | (refine ⟨fun _ => ?_, fun q => absurd (by decide) q⟩) | (refine ac_get M.1 ?_; conv => whnf) | (refine ⟨_, M.1, Nat.le_of_ble_eq_true rfl, Nat.le_of_ble_eq_true rfl, Nat.le_of_ble_eq_true rfl, ?_⟩) | (refine ⟨Nat.le_of_ble_eq_true rfl, Nat.le_of_ble_eq_true rfl, Nat.le_of_ble_eq_true rfl, ?_⟩))
  refine r_in (fun q2 => ?_) (fun q2 => ?_)
  · rw [if_pos (Or.inl (m_bad7.mp q2))] at hQ
    repeat (first | (refine hP _ _ _ _ _ _ ?_; conv => whnf) | (refine ⟨fun q => absurd q (by decide), fun _ => ?_⟩) | (refine ⟨fun _ => ?_, fun q => absurd (by decide) q⟩) | (refine ac_get M.1 ?_; conv => whnf) | (refine ⟨_, M.1, Nat.le_of_ble_eq_true rfl, Nat.le_of_ble_eq_true rfl, Nat.le_of_ble_eq_true rfl, ?_⟩) | (refine ⟨Nat.le_of_ble_eq_true rfl, Nat.le_of_ble_eq_true rfl, Nat.le_of_ble_eq_true rfl, ?_⟩))
    (refine r_good0 M (fun h M F => ?_); replace G := m_frT G F)
    repeat (first | (refine hP _ _ _ _ _ _ ?_; conv => whnf) | (refine ⟨fun q => absurd q (by decide), fun _ => ?_⟩) | (refine ⟨fun _ => ?_, fun q => absurd (by decide) q⟩) | (refine ac_get M.1 ?_; conv => whnf) | (refine ⟨_, M.1, Nat.le_of_ble_eq_true rfl, Nat.le_of_ble_eq_true rfl, Nat.le_of_ble_eq_true rfl, ?_⟩) | (refine ⟨Nat.le_of_ble_eq_true rfl, Nat.le_of_ble_eq_true rfl, Nat.le_of_ble_eq_true rfl, ?_⟩))
    exact ⟨rfl, hQ _ _ _ M G, by decide, by decide⟩
  have q2' : ¬ m_bad r 8 := fun z => q2 (m_bad7.mpr z)
  repeat (first | (refine hP _ _ _ _ _ _ ?_; conv => whnf) | (refine ⟨fun q => absurd q (by decide), fun _ => ?_⟩) | (refine ⟨fun _ => ?_, fun q => absurd (by decide) q⟩) | (refine ac_get M.1 ?_; conv => whnf) | (refine ⟨_, M.1, Nat.le_of_ble_eq_true rfl, Nat.le_of_ble_eq_true rfl, Nat.le_of_ble_eq_true rfl, ?_⟩) | (refine ⟨Nat.le_of_ble_eq_true rfl, Nat.le_of_ble_eq_true rfl, Nat.le_of_ble_eq_true rfl, ?_⟩))
  refine r_in (fun q3 => ?_) (fun q3 => ?_)
  · rw [if_pos (Or.inr (Or.inl (m_bad7.mp q3)))] at hQ
    repeat (first | (refine hP _ _ _ _ _ _ ?_; conv => whnf) | (refine ⟨fun q => absurd q (by decide), fun _ => ?_⟩) | (refine ⟨fun _ => ?_, fun q => absurd (by decide) q⟩) | (refine ac_get M.1 ?_; conv => whnf) | (refine ⟨_, M.1, Nat.le_of_ble_eq_true rfl, Nat.le_of_ble_eq_true rfl, Nat.le_of_ble_eq_true rfl, ?_⟩) | (refine ⟨Nat.le_of_ble_eq_true rfl, Nat.le_of_ble_eq_true rfl, Nat.le_of_ble_eq_true rfl, ?_⟩))
    (refine r_good0 M (fun h M F => ?_); replace G := m_frT G F)
    repeat (first | (refine hP _ _ _ _ _ _ ?_; conv => whnf) | (refine ⟨fun q => absurd q (by decide), fun _ => ?_⟩) | (refine ⟨fun _ => ?_, fun q => absurd (by decide) q⟩) | (refine ac_get M.1 ?_; conv => whnf) | (refine ⟨_, M.1, Nat.le_of_ble_eq_true rfl, Nat.le_of_ble_eq_true rfl, Nat.le_of_ble_eq_true rfl, ?_⟩) | (refine ⟨Nat.le_of_ble_eq_true rfl, Nat.le_of_ble_eq_true rfl, Nat.le_of_ble_eq_true rfl, ?_⟩))
    exact ⟨rfl, hQ _ _ _ M G, by decide, by decide⟩
  have q3' : ¬ m_bad o 8 := fun z => q3 (m_bad7.mpr z)
  repeat (first | (refine hP _ _ _ _ _ _ ?_; conv => whnf) | (refine ⟨fun q => absurd q (by decide), fun _ => ?_⟩) | (refine ⟨fun _ => ?_, fun q => absurd (by decide) q⟩) | (refine ac_get M.1 ?_; conv => whnf) | (refine ⟨_, M.1, Nat.le_of_ble_eq_true rfl, Nat.le_of_ble_eq_true rfl, Nat.le_of_ble_eq_true rfl, ?_⟩) | (refine ⟨Nat.le_of_ble_eq_true rfl, Nat.le_of_ble_eq_true rfl, Nat.le_of_ble_eq_true rfl, ?_⟩))
  refine r_in (fun q => ?_) (fun q => ?_)
  · rw [if_pos (Or.inr (Or.inr ((m_badT (z := 25) (by decide) (by decide)).mp q)))] at hQ
    repeat (first | (refine hP _ _ _ _ _ _ ?_; conv => whnf) | (refine ⟨fun q => absurd q (by decide), fun _ => ?_⟩) | (refine ⟨fun _ => ?_, fun q => absurd (by decide) q⟩) | (refine ac_get M.1 ?_; conv => whnf) | (refine ⟨_, M.1, Nat.le_of_ble_eq_true rfl, Nat.le_of_ble_eq_true rfl, Nat.le_of_ble_eq_true rfl, ?_⟩) | (refine ⟨Nat.le_of_ble_eq_true rfl, Nat.le_of_ble_eq_true rfl, Nat.le_of_ble_eq_true rfl, ?_⟩))
    (refine r_good0 M (fun h M F => ?_); replace G := m_frT G F)
    repeat (first | (refine hP _ _ _ _ _ _ ?_; conv => whnf) | (refine ⟨fun q => absurd q (by decide), fun _ => ?_⟩) | (refine ⟨fun _ => ?_, fun q => absurd (by decide) q⟩) | (refine ac_get M.1 ?_; conv => whnf) | (refine ⟨_, M.1, Nat.le_of_ble_eq_true rfl, Nat.le_of_ble_eq_true rfl, Nat.le_of_ble_eq_true rfl, ?_⟩) | (refine ⟨Nat.le_of_ble_eq_true rfl, Nat.le_of_ble_eq_true rfl, Nat.le_of_ble_eq_true rfl, ?_⟩))
    exact ⟨rfl, hQ _ _ _ M G, by decide, by decide⟩
  have q' : ¬ m_bad n 25 := fun z => q ((m_badT (z := 25) (by decide) (by decide)).mpr z)
  rw [if_neg (fun z => z.elim q2' (fun z => z.elim q3' q'))] at hQ
  obtain ⟨p, hp, rfl⟩ := m_badN (by decide) q'
  obtain ⟨k, hk, rfl⟩ := m_badN (by decide) q2'
  obtain ⟨t, ht, rfl⟩ := m_badN (by decide) q3'
  rw [nI_clamp (by omega), nI_clamp (by omega), nI_clamp (by omega)] at hQ
  have hN : (m_rg S k = none ∨ m_rg S t = none) → ∀ h' ve el, m_md h' mm ar S ve el 2 → m_fr mm ar h0 h' → Q (.inl (some (.int 0))) h' := by
    intro e
    rcases e with e | e
    · rw [e] at hQ
      exact hQ
    · cases e3 : m_rg S k with
      | none =>
        rw [e3] at hQ
        exact hQ
      | some i =>
        rw [e3] at hQ
        replace hQ : m_app _ (m_ns 0 S (m_rg S t) (fun j => j_move S ix at' p i j)) := hQ
        rw [e] at hQ
        exact hQ
  repeat (first | (refine hP _ _ _ _ _ _ ?_; conv => whnf) | (refine ⟨fun q => absurd q (by decide), fun _ => ?_⟩) | (refine ⟨fun _ => ?_, fun q => absurd (by decide) q⟩) | (refine ac_get M.1 ?_; conv => whnf) | (refine ⟨_, M.1, Nat.le_of_ble_eq_true rfl, Nat.le_of_ble_eq_true rfl, Nat.le_of_ble_eq_true rfl, ?_⟩) | (refine ⟨Nat.le_of_ble_eq_true rfl, Nat.le_of_ble_eq_true rfl, Nat.le_of_ble_eq_true rfl, ?_⟩))
  (refine r_good1 M (fun h M F => ?_); replace G := m_frT G F)
  repeat (first | (refine hP _ _ _ _ _ _ ?_; conv => whnf) | (refine ⟨fun q => absurd q (by decide), fun _ => ?_⟩) | (refine ⟨fun _ => ?_, fun q => absurd (by decide) q⟩) | (refine ac_get M.1 ?_; conv => whnf) | (refine ⟨_, M.1, Nat.le_of_ble_eq_true rfl, Nat.le_of_ble_eq_true rfl, Nat.le_of_ble_eq_true rfl, ?_⟩) | (refine ⟨Nat.le_of_ble_eq_true rfl, Nat.le_of_ble_eq_true rfl, Nat.le_of_ble_eq_true rfl, ?_⟩))
  refine r_both M W hk ht (b := 7) (by decide) (fun e h ve el M F => ?_) (fun i j e e2 q h ve el M F => ?_) (fun i j e e2 q ha ve el M F => ?_)
  · replace G := m_frT G F
    repeat (first | (refine hP _ _ _ _ _ _ ?_; conv => whnf) | (refine ⟨fun q => absurd q (by decide), fun _ => ?_⟩) | (refine ⟨fun _ => ?_, fun q => absurd (by decide) q⟩) | (refine ac_get M.1 ?_; conv => whnf) | (refine ⟨_, M.1, Nat.le_of_ble_eq_true rfl, Nat.le_of_ble_eq_true rfl, Nat.le_of_ble_eq_true rfl, ?_⟩) | (refine ⟨Nat.le_of_ble_eq_true rfl, Nat.le_of_ble_eq_true rfl, Nat.le_of_ble_eq_true rfl, ?_⟩))
    exact ⟨rfl, hN e _ _ _ M G, by decide, by decide⟩
  · replace G := m_frT G F
    rw [e] at hQ
    replace hQ : m_app _ (m_ns 0 S (m_rg S t) (fun j => j_move S ix at' p i j)) := hQ
    rw [e2] at hQ
    replace hQ : m_app _ (j_move S ix at' p i j) := hQ
    unfold j_move at hQ
    rw [if_pos q] at hQ
    repeat (first | (refine hP _ _ _ _ _ _ ?_; conv => whnf) | (refine ⟨fun q => absurd q (by decide), fun _ => ?_⟩) | (refine ⟨fun _ => ?_, fun q => absurd (by decide) q⟩) | (refine ac_get M.1 ?_; conv => whnf) | (refine ⟨_, M.1, Nat.le_of_ble_eq_true rfl, Nat.le_of_ble_eq_true rfl, Nat.le_of_ble_eq_true rfl, ?_⟩) | (refine ⟨Nat.le_of_ble_eq_true rfl, Nat.le_of_ble_eq_true rfl, Nat.le_of_ble_eq_true rfl, ?_⟩))
    exact ⟨rfl, hQ _ _ _ M G, by decide, by decide⟩
  replace G := m_frT G F
  rw [e] at hQ
  replace hQ : m_app _ (m_ns 0 S (m_rg S t) (fun j => j_move S ix at' p i j)) := hQ
  rw [e2] at hQ
  replace hQ : m_app _ (j_move S ix at' p i j) := hQ
  unfold j_move at hQ
  rw [if_neg q] at hQ
  have hi := W.2.1 k i hk e
  have hj := W.2.1 t j ht e2
  have gi := m_wg W hi
  have gj := m_wg W hj
  have hk7 : m_kd S (m_gr S i) ≤ 7 := by omega
  iterate 1 (refine hP _ _ _ _ _ _ ?_; conv => whnf)
  refine ⟨fun _ => ?_, fun q => absurd (by decide) q⟩
  iterate 2 (refine hP _ _ _ _ _ _ ?_; conv => whnf)
  have L : ∀ d c T hx ve el, c + d = p → m_wf T → m_rg T = m_rg S → m_kd T = m_kd S → m_gr T = m_gr S → m_mk T = m_mk S → m_md hx mm ar T ve el 0 → m_fr mm ar h0 hx → m_app (fun x a S' => ∀ h' ve el, m_md h' mm ar S' ve el (m_ct 0 x) → m_fr mm ar h0 h' → Q (.inl (some (.int a))) h') (m_mr p (m_mv i j ix at' d c T)) → ∀ v, P 60 [some (.ref mm), some (.int (nI k)), some (.int ix), some (.int (nI t)), some (.int at'), some (.int (nI p)), some (.int (nI c)), v, none] [] hx 0 0 := by
    intro d
    induction d with
    | zero =>
      intro c T hx ve el ec WT e3 e4 e5 e6 M G hQ v
      have ec' : c = p := by omega
      subst ec'
      repeat (first | (refine hP _ _ _ _ _ _ ?_; conv => whnf) | (refine ⟨fun q => absurd q (by decide), fun _ => ?_⟩) | (refine ⟨fun _ => ?_, fun q => absurd (by decide) q⟩) | (refine ac_get M.1 ?_; conv => whnf) | (refine ⟨_, M.1, Nat.le_of_ble_eq_true rfl, Nat.le_of_ble_eq_true rfl, Nat.le_of_ble_eq_true rfl, ?_⟩) | (refine ⟨Nat.le_of_ble_eq_true rfl, Nat.le_of_ble_eq_true rfl, Nat.le_of_ble_eq_true rfl, ?_⟩))
      refine br_t (nI_le (Nat.le_refl _) (by omega)) ?_
      repeat (first | (refine hP _ _ _ _ _ _ ?_; conv => whnf) | (refine ⟨fun q => absurd q (by decide), fun _ => ?_⟩) | (refine ⟨fun _ => ?_, fun q => absurd (by decide) q⟩) | (refine ac_get M.1 ?_; conv => whnf) | (refine ⟨_, M.1, Nat.le_of_ble_eq_true rfl, Nat.le_of_ble_eq_true rfl, Nat.le_of_ble_eq_true rfl, ?_⟩) | (refine ⟨Nat.le_of_ble_eq_true rfl, Nat.le_of_ble_eq_true rfl, Nat.le_of_ble_eq_true rfl, ?_⟩))
      exact ⟨rfl, hQ _ _ _ M G, by decide, by decide⟩
    | succ d ih =>
      intro c T hx ve el ec WT e3 e4 e5 e6 M G hQ v
      unfold m_mv at hQ
      have hiT : i < m_mk T := by rw [e6]; exact hi
      have hjT : j < m_mk T := by rw [e6]; exact hj
      have giT := m_wg WT hiT
      have gjT := m_wg WT hjT
      have liT := (WT.2.2 _ giT).2.1
      have ljT := (WT.2.2 _ gjT).2.1
      repeat (first | (refine hP _ _ _ _ _ _ ?_; conv => whnf) | (refine ⟨fun q => absurd q (by decide), fun _ => ?_⟩) | (refine ⟨fun _ => ?_, fun q => absurd (by decide) q⟩) | (refine ac_get M.1 ?_; conv => whnf) | (refine ⟨_, M.1, Nat.le_of_ble_eq_true rfl, Nat.le_of_ble_eq_true rfl, Nat.le_of_ble_eq_true rfl, ?_⟩) | (refine ⟨Nat.le_of_ble_eq_true rfl, Nat.le_of_ble_eq_true rfl, Nat.le_of_ble_eq_true rfl, ?_⟩))
      refine br_f (nI_ge (by omega) (by omega)) ?_
      repeat (first | (refine hP _ _ _ _ _ _ ?_; conv => whnf) | (refine ⟨fun q => absurd q (by decide), fun _ => ?_⟩) | (refine ⟨fun _ => ?_, fun q => absurd (by decide) q⟩) | (refine ac_get M.1 ?_; conv => whnf) | (refine ⟨_, M.1, Nat.le_of_ble_eq_true rfl, Nat.le_of_ble_eq_true rfl, Nat.le_of_ble_eq_true rfl, ?_⟩) | (refine ⟨Nat.le_of_ble_eq_true rfl, Nat.le_of_ble_eq_true rfl, Nat.le_of_ble_eq_true rfl, ?_⟩))
      refine md_rg M rfl ht ?_
      rw [e3, e2]
      repeat (first | (refine hP _ _ _ _ _ _ ?_; conv => whnf) | (refine ⟨fun q => absurd q (by decide), fun _ => ?_⟩) | (refine ⟨fun _ => ?_, fun q => absurd (by decide) q⟩) | (refine ac_get M.1 ?_; conv => whnf) | (refine ⟨_, M.1, Nat.le_of_ble_eq_true rfl, Nat.le_of_ble_eq_true rfl, Nat.le_of_ble_eq_true rfl, ?_⟩) | (refine ⟨Nat.le_of_ble_eq_true rfl, Nat.le_of_ble_eq_true rfl, Nat.le_of_ble_eq_true rfl, ?_⟩))
      refine r_find M WT hjT (fun h M F => ?_)
      replace G := m_frT G F
      repeat (first | (refine hP _ _ _ _ _ _ ?_; conv => whnf) | (refine ⟨fun q => absurd q (by decide), fun _ => ?_⟩) | (refine ⟨fun _ => ?_, fun q => absurd (by decide) q⟩) | (refine ac_get M.1 ?_; conv => whnf) | (refine ⟨_, M.1, Nat.le_of_ble_eq_true rfl, Nat.le_of_ble_eq_true rfl, Nat.le_of_ble_eq_true rfl, ?_⟩) | (refine ⟨Nat.le_of_ble_eq_true rfl, Nat.le_of_ble_eq_true rfl, Nat.le_of_ble_eq_true rfl, ?_⟩))
      refine md_wco M (fun h M F => ?_)
      replace G := m_frT G F
      repeat (first | (refine hP _ _ _ _ _ _ ?_; conv => whnf) | (refine ⟨fun q => absurd q (by decide), fun _ => ?_⟩) | (refine ⟨fun _ => ?_, fun q => absurd (by decide) q⟩) | (refine ac_get M.1 ?_; conv => whnf) | (refine ⟨_, M.1, Nat.le_of_ble_eq_true rfl, Nat.le_of_ble_eq_true rfl, Nat.le_of_ble_eq_true rfl, ?_⟩) | (refine ⟨Nat.le_of_ble_eq_true rfl, Nat.le_of_ble_eq_true rfl, Nat.le_of_ble_eq_true rfl, ?_⟩))
      by_cases c1 : (m_pl T j (at' + nI c)).1 = 7
      · rw [if_neg (fun z => z c1)] at hQ
        obtain ⟨p1, p2, p3⟩ := m_pl7 WT hjT c1
        rw [p3] at M
        refine br_t (show m_ct 0 (m_pl T j (at' + nI c)).1 = 0 by rw [c1]; rfl) ?_
        replace M : m_md h mm ar T (nI (m_gr T j)) (nI (m_pl T j (at' + nI c)).2) (m_ct 0 (m_pl T j (at' + nI c)).1) := M
        rw [c1] at M
        repeat (first | (refine hP _ _ _ _ _ _ ?_; conv => whnf) | (refine ⟨fun q => absurd q (by decide), fun _ => ?_⟩) | (refine ⟨fun _ => ?_, fun q => absurd (by decide) q⟩) | (refine ac_get M.1 ?_; conv => whnf) | (refine ⟨_, M.1, Nat.le_of_ble_eq_true rfl, Nat.le_of_ble_eq_true rfl, Nat.le_of_ble_eq_true rfl, ?_⟩) | (refine ⟨Nat.le_of_ble_eq_true rfl, Nat.le_of_ble_eq_true rfl, Nat.le_of_ble_eq_true rfl, ?_⟩))
        refine r_here M (m_w5 WT gjT) (by omega) ?_
        repeat (first | (refine hP _ _ _ _ _ _ ?_; conv => whnf) | (refine ⟨fun q => absurd q (by decide), fun _ => ?_⟩) | (refine ⟨fun _ => ?_, fun q => absurd (by decide) q⟩) | (refine ac_get M.1 ?_; conv => whnf) | (refine ⟨_, M.1, Nat.le_of_ble_eq_true rfl, Nat.le_of_ble_eq_true rfl, Nat.le_of_ble_eq_true rfl, ?_⟩) | (refine ⟨Nat.le_of_ble_eq_true rfl, Nat.le_of_ble_eq_true rfl, Nat.le_of_ble_eq_true rfl, ?_⟩))
        refine md_rg M rfl hk ?_
        rw [e3, e]
        repeat (first | (refine hP _ _ _ _ _ _ ?_; conv => whnf) | (refine ⟨fun q => absurd q (by decide), fun _ => ?_⟩) | (refine ⟨fun _ => ?_, fun q => absurd (by decide) q⟩) | (refine ac_get M.1 ?_; conv => whnf) | (refine ⟨_, M.1, Nat.le_of_ble_eq_true rfl, Nat.le_of_ble_eq_true rfl, Nat.le_of_ble_eq_true rfl, ?_⟩) | (refine ⟨Nat.le_of_ble_eq_true rfl, Nat.le_of_ble_eq_true rfl, Nat.le_of_ble_eq_true rfl, ?_⟩))
        refine r_find M WT hiT (fun h M F => ?_)
        replace G := m_frT G F
        repeat (first | (refine hP _ _ _ _ _ _ ?_; conv => whnf) | (refine ⟨fun q => absurd q (by decide), fun _ => ?_⟩) | (refine ⟨fun _ => ?_, fun q => absurd (by decide) q⟩) | (refine ac_get M.1 ?_; conv => whnf) | (refine ⟨_, M.1, Nat.le_of_ble_eq_true rfl, Nat.le_of_ble_eq_true rfl, Nat.le_of_ble_eq_true rfl, ?_⟩) | (refine ⟨Nat.le_of_ble_eq_true rfl, Nat.le_of_ble_eq_true rfl, Nat.le_of_ble_eq_true rfl, ?_⟩))
        refine md_wco M (fun h M F => ?_)
        replace G := m_frT G F
        repeat (first | (refine hP _ _ _ _ _ _ ?_; conv => whnf) | (refine ⟨fun q => absurd q (by decide), fun _ => ?_⟩) | (refine ⟨fun _ => ?_, fun q => absurd (by decide) q⟩) | (refine ac_get M.1 ?_; conv => whnf) | (refine ⟨_, M.1, Nat.le_of_ble_eq_true rfl, Nat.le_of_ble_eq_true rfl, Nat.le_of_ble_eq_true rfl, ?_⟩) | (refine ⟨Nat.le_of_ble_eq_true rfl, Nat.le_of_ble_eq_true rfl, Nat.le_of_ble_eq_true rfl, ?_⟩))
        by_cases c2 : (m_pl T i (ix + nI c)).1 = 7
        · rw [if_neg (fun z => z c2)] at hQ
          obtain ⟨u1, u2, u3⟩ := m_pl7 WT hiT c2
          rw [u3] at M
          refine br_t (show m_ct 0 (m_pl T i (ix + nI c)).1 = 0 by rw [c2]; rfl) ?_
          replace M : m_md h mm ar T (nI (m_gr T i)) (nI (m_pl T i (ix + nI c)).2) (m_ct 0 (m_pl T i (ix + nI c)).1) := M
          rw [c2] at M
          have k7T : m_kd T (m_gr T i) ≤ 7 := by rw [e4, e5]; exact hk7
          repeat (first | (refine hP _ _ _ _ _ _ ?_; conv => whnf) | (refine ⟨fun q => absurd q (by decide), fun _ => ?_⟩) | (refine ⟨fun _ => ?_, fun q => absurd (by decide) q⟩) | (refine ac_get M.1 ?_; conv => whnf) | (refine ⟨_, M.1, Nat.le_of_ble_eq_true rfl, Nat.le_of_ble_eq_true rfl, Nat.le_of_ble_eq_true rfl, ?_⟩) | (refine ⟨Nat.le_of_ble_eq_true rfl, Nat.le_of_ble_eq_true rfl, Nat.le_of_ble_eq_true rfl, ?_⟩))
          refine r_set M (m_w5 WT giT) (by omega) k7T (fun h M F => ?_)
          replace G := m_frT G F
          iterate 3 (refine hP _ _ _ _ _ _ ?_; conv => whnf)
          rw [nI_1]
          exact ih (c + 1) _ _ _ _ (by omega) (wf_sst7 WT (by omega) k7T) e3 e4 e5 e6 M G hQ _
        · rw [if_pos c2] at hQ
          have e7 : m_mr p ((m_pl T i (ix + nI c)).1, T) = ((m_pl T i (ix + nI c)).1, 0, T) := by
            unfold m_mr
            rw [if_neg c2]
          rw [e7] at hQ
          refine br_f (m_ctne c2) ?_
          repeat (first | (refine hP _ _ _ _ _ _ ?_; conv => whnf) | (refine ⟨fun q => absurd q (by decide), fun _ => ?_⟩) | (refine ⟨fun _ => ?_, fun q => absurd (by decide) q⟩) | (refine ac_get M.1 ?_; conv => whnf) | (refine ⟨_, M.1, Nat.le_of_ble_eq_true rfl, Nat.le_of_ble_eq_true rfl, Nat.le_of_ble_eq_true rfl, ?_⟩) | (refine ⟨Nat.le_of_ble_eq_true rfl, Nat.le_of_ble_eq_true rfl, Nat.le_of_ble_eq_true rfl, ?_⟩))
          exact ⟨rfl, hQ _ _ _ M G, by decide, by decide⟩
      · rw [if_pos c1] at hQ
        have e7 : m_mr p ((m_pl T j (at' + nI c)).1, T) = ((m_pl T j (at' + nI c)).1, 0, T) := by
          unfold m_mr
          rw [if_neg c1]
        rw [e7] at hQ
        refine br_f (m_ctne c1) ?_
        repeat (first | (refine hP _ _ _ _ _ _ ?_; conv => whnf) | (refine ⟨fun q => absurd q (by decide), fun _ => ?_⟩) | (refine ⟨fun _ => ?_, fun q => absurd (by decide) q⟩) | (refine ac_get M.1 ?_; conv => whnf) | (refine ⟨_, M.1, Nat.le_of_ble_eq_true rfl, Nat.le_of_ble_eq_true rfl, Nat.le_of_ble_eq_true rfl, ?_⟩) | (refine ⟨Nat.le_of_ble_eq_true rfl, Nat.le_of_ble_eq_true rfl, Nat.le_of_ble_eq_true rfl, ?_⟩))
        exact ⟨rfl, hQ _ _ _ M G, by decide, by decide⟩
  exact L p 0 S ha ve el (by omega) W rfl rfl rfl rfl M G hQ _
end REFF
