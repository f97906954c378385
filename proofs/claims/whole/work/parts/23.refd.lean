/-! ===== the reference: copy, lose, resize, size, take, put ===== -/
theorem m_rvI {o u : Option Nat} (ho : ∀ j, o = some j → j < 512) (hu : ∀ j, u = some j → j < 512) : m_rv o = m_rv u ↔ o = u := by
  constructor
  · intro z
    have n1 : ∀ j, j < 512 → ¬ m_rv none = m_rv (some j) := fun j hj e => by
      have h1 : (m_rv none).toInt = -1 := by decide
      have h2 : (m_rv (some j)).toInt = (j : Int) := nI_toInt (by omega)
      rw [e, h2] at h1
      omega
    cases o with
    | none =>
      cases u with
      | none => rfl
      | some j => exact absurd z (n1 j (hu j rfl))
    | some i =>
      cases u with
      | none => exact absurd z.symm (n1 i (ho i rfl))
      | some j =>
        have h1 := ho i rfl
        have h2 := hu j rfl
        exact congrArg some ((nI_eq (by omega) (by omega)).mp z)
  · intro z
    rw [z]
section REFD
variable {h : ac_H} {mm : Nat} {ar : Nat → Nat} {S : m_S} {ve el co : Int32} {Q : ac_Q}
theorem m_wr (W : m_wf S) {k : Nat} (hk : k < 8) : ∀ j, m_rg S k = some j → j < 512 := fun j e => Nat.lt_of_lt_of_le (W.2.1 k j hk e) W.1
theorem R_copy (M : m_md h mm ar S ve el co) (W : m_wf S) {r f : Int32} (hQ : m_app (fun x a S' => ∀ h' ve el, m_md h' mm ar S' ve el (m_ct 0 x) → m_fr mm ar h h' → Q (.inl (some (.int a))) h') (f_copy S r f)) : T_X6_copy [.ref mm, .int r, .int f] h Q := by
  have G : m_fr mm ar h h := m_fr0
  unfold f_copy at hQ
  (intro P hP; conv => whnf)
  repeat (first | (refine hP _ _ _ _ _ _ ?_; conv => whnf) | (refine ⟨fun q => absurd q (by decide), fun _ => ?_⟩) | (refine ⟨fun _ => ?_, fun q => absurd (by decide) q⟩) | (refine ac_get M.1 ?_; conv => whnf) | (refine ⟨_, M.1, Nat.le_of_ble_eq_true rfl, Nat.le_of_ble_eq_true rfl, Nat.le_of_ble_eq_true rfl, ?_⟩) | (refine ⟨Nat.le_of_ble_eq_true rfl, Nat.le_of_ble_eq_true rfl, Nat.le_of_ble_eq_true rfl, ?_⟩))
  refine r_in (fun q => ?_) (fun q => ?_)
  · rw [if_pos (Or.inl (m_bad7.mp q))] at hQ
    repeat (first | (refine hP _ _ _ _ _ _ ?_; conv => whnf) | (refine ⟨fun q => absurd q (by decide), fun _ => ?_⟩) | (refine ⟨fun _ => ?_, fun q => absurd (by decide) q⟩) | (refine ac_get M.1 ?_; conv => whnf) | (refine ⟨_, M.1, Nat.le_of_ble_eq_true rfl, Nat.le_of_ble_eq_true rfl, Nat.le_of_ble_eq_true rfl, ?_⟩) | (refine ⟨Nat.le_of_ble_eq_true rfl, Nat.le_of_ble_eq_true rfl, Nat.le_of_ble_eq_true rfl, ?_⟩))
    (refine r_good0 M (fun h M F => ?_); replace G := m_frT G F)
    repeat (first | (refine hP _ _ _ _ _ _ ?_; conv => whnf) | (refine ⟨fun q => absurd q (by decide), fun _ => ?_⟩) | (refine ⟨fun _ => ?_, fun q => absurd (by decide) q⟩) | (refine ac_get M.1 ?_; conv => whnf) | (refine ⟨_, M.1, Nat.le_of_ble_eq_true rfl, Nat.le_of_ble_eq_true rfl, Nat.le_of_ble_eq_true rfl, ?_⟩) | (refine ⟨Nat.le_of_ble_eq_true rfl, Nat.le_of_ble_eq_true rfl, Nat.le_of_ble_eq_true rfl, ?_⟩))
    exact ⟨rfl, Or.inl rfl, hQ _ _ _ M G, by decide, by decide⟩
  · repeat (first | (refine hP _ _ _ _ _ _ ?_; conv => whnf) | (refine ⟨fun q => absurd q (by decide), fun _ => ?_⟩) | (refine ⟨fun _ => ?_, fun q => absurd (by decide) q⟩) | (refine ac_get M.1 ?_; conv => whnf) | (refine ⟨_, M.1, Nat.le_of_ble_eq_true rfl, Nat.le_of_ble_eq_true rfl, Nat.le_of_ble_eq_true rfl, ?_⟩) | (refine ⟨Nat.le_of_ble_eq_true rfl, Nat.le_of_ble_eq_true rfl, Nat.le_of_ble_eq_true rfl, ?_⟩))
    have q' : ¬ m_bad r 8 := fun z => q (m_bad7.mpr z)
    refine r_in (fun q2 => ?_) (fun q2 => ?_)
    · rw [if_pos (Or.inr q2)] at hQ
      repeat (first | (refine hP _ _ _ _ _ _ ?_; conv => whnf) | (refine ⟨fun q => absurd q (by decide), fun _ => ?_⟩) | (refine ⟨fun _ => ?_, fun q => absurd (by decide) q⟩) | (refine ac_get M.1 ?_; conv => whnf) | (refine ⟨_, M.1, Nat.le_of_ble_eq_true rfl, Nat.le_of_ble_eq_true rfl, Nat.le_of_ble_eq_true rfl, ?_⟩) | (refine ⟨Nat.le_of_ble_eq_true rfl, Nat.le_of_ble_eq_true rfl, Nat.le_of_ble_eq_true rfl, ?_⟩))
      (refine r_good0 M (fun h M F => ?_); replace G := m_frT G F)
      repeat (first | (refine hP _ _ _ _ _ _ ?_; conv => whnf) | (refine ⟨fun q => absurd q (by decide), fun _ => ?_⟩) | (refine ⟨fun _ => ?_, fun q => absurd (by decide) q⟩) | (refine ac_get M.1 ?_; conv => whnf) | (refine ⟨_, M.1, Nat.le_of_ble_eq_true rfl, Nat.le_of_ble_eq_true rfl, Nat.le_of_ble_eq_true rfl, ?_⟩) | (refine ⟨Nat.le_of_ble_eq_true rfl, Nat.le_of_ble_eq_true rfl, Nat.le_of_ble_eq_true rfl, ?_⟩))
      exact ⟨rfl, Or.inl rfl, hQ _ _ _ M G, by decide, by decide⟩
    · rw [if_neg (fun z => z.elim q' q2)] at hQ
      repeat (first | (refine hP _ _ _ _ _ _ ?_; conv => whnf) | (refine ⟨fun q => absurd q (by decide), fun _ => ?_⟩) | (refine ⟨fun _ => ?_, fun q => absurd (by decide) q⟩) | (refine ac_get M.1 ?_; conv => whnf) | (refine ⟨_, M.1, Nat.le_of_ble_eq_true rfl, Nat.le_of_ble_eq_true rfl, Nat.le_of_ble_eq_true rfl, ?_⟩) | (refine ⟨Nat.le_of_ble_eq_true rfl, Nat.le_of_ble_eq_true rfl, Nat.le_of_ble_eq_true rfl, ?_⟩))
      (refine r_good1 M (fun h M F => ?_); replace G := m_frT G F)
      iterate 1 (refine hP _ _ _ _ _ _ ?_; conv => whnf)
      refine ⟨fun _ => ?_, fun q => absurd (by decide) q⟩
      obtain ⟨k, hk, rfl⟩ := m_badN (by decide) q'
      rw [nI_clamp (by omega)] at hQ
      have T : ∀ o, m_cf S f = o → (∀ j, o = some j → j < 512) → P 49 [some (.ref mm), some (.int (nI k)), some (.int f), none, none] [.int (m_rv o)] h 0 0 := by
        intro o eo ho
        rw [eo] at hQ
        repeat (first | (refine hP _ _ _ _ _ _ ?_; conv => whnf) | (refine ⟨fun q => absurd q (by decide), fun _ => ?_⟩) | (refine ⟨fun _ => ?_, fun q => absurd (by decide) q⟩) | (refine ac_get M.1 ?_; conv => whnf) | (refine ⟨_, M.1, Nat.le_of_ble_eq_true rfl, Nat.le_of_ble_eq_true rfl, Nat.le_of_ble_eq_true rfl, ?_⟩) | (refine ⟨Nat.le_of_ble_eq_true rfl, Nat.le_of_ble_eq_true rfl, Nat.le_of_ble_eq_true rfl, ?_⟩))
        refine md_rg M rfl hk ?_
        repeat (first | (refine hP _ _ _ _ _ _ ?_; conv => whnf) | (refine ⟨fun q => absurd q (by decide), fun _ => ?_⟩) | (refine ⟨fun _ => ?_, fun q => absurd (by decide) q⟩) | (refine ac_get M.1 ?_; conv => whnf) | (refine ⟨_, M.1, Nat.le_of_ble_eq_true rfl, Nat.le_of_ble_eq_true rfl, Nat.le_of_ble_eq_true rfl, ?_⟩) | (refine ⟨Nat.le_of_ble_eq_true rfl, Nat.le_of_ble_eq_true rfl, Nat.le_of_ble_eq_true rfl, ?_⟩))
        by_cases c : m_rg S k = o
        · rw [if_pos c] at hQ
          refine br_f (fun z => z (congrArg m_rv c)) ?_
          repeat (first | (refine hP _ _ _ _ _ _ ?_; conv => whnf) | (refine ⟨fun q => absurd q (by decide), fun _ => ?_⟩) | (refine ⟨fun _ => ?_, fun q => absurd (by decide) q⟩) | (refine ac_get M.1 ?_; conv => whnf) | (refine ⟨_, M.1, Nat.le_of_ble_eq_true rfl, Nat.le_of_ble_eq_true rfl, Nat.le_of_ble_eq_true rfl, ?_⟩) | (refine ⟨Nat.le_of_ble_eq_true rfl, Nat.le_of_ble_eq_true rfl, Nat.le_of_ble_eq_true rfl, ?_⟩))
          refine md_wrg M (o := o) rfl hk rfl (fun h M F => ?_)
          replace G := m_frT G F
          repeat (first | (refine hP _ _ _ _ _ _ ?_; conv => whnf) | (refine ⟨fun q => absurd q (by decide), fun _ => ?_⟩) | (refine ⟨fun _ => ?_, fun q => absurd (by decide) q⟩) | (refine ac_get M.1 ?_; conv => whnf) | (refine ⟨_, M.1, Nat.le_of_ble_eq_true rfl, Nat.le_of_ble_eq_true rfl, Nat.le_of_ble_eq_true rfl, ?_⟩) | (refine ⟨Nat.le_of_ble_eq_true rfl, Nat.le_of_ble_eq_true rfl, Nat.le_of_ble_eq_true rfl, ?_⟩))
          exact ⟨rfl, Or.inr rfl, hQ _ _ _ M G, by decide, by decide⟩
        · rw [if_neg c] at hQ
          refine br_t (fun z => c ((m_rvI (m_wr W hk) ho).mp z)) ?_
          repeat (first | (refine hP _ _ _ _ _ _ ?_; conv => whnf) | (refine ⟨fun q => absurd q (by decide), fun _ => ?_⟩) | (refine ⟨fun _ => ?_, fun q => absurd (by decide) q⟩) | (refine ac_get M.1 ?_; conv => whnf) | (refine ⟨_, M.1, Nat.le_of_ble_eq_true rfl, Nat.le_of_ble_eq_true rfl, Nat.le_of_ble_eq_true rfl, ?_⟩) | (refine ⟨Nat.le_of_ble_eq_true rfl, Nat.le_of_ble_eq_true rfl, Nat.le_of_ble_eq_true rfl, ?_⟩))
          refine md_wrg M (o := o) rfl hk rfl (fun h M F => ?_)
          replace G := m_frT G F
          repeat (first | (refine hP _ _ _ _ _ _ ?_; conv => whnf) | (refine ⟨fun q => absurd q (by decide), fun _ => ?_⟩) | (refine ⟨fun _ => ?_, fun q => absurd (by decide) q⟩) | (refine ac_get M.1 ?_; conv => whnf) | (refine ⟨_, M.1, Nat.le_of_ble_eq_true rfl, Nat.le_of_ble_eq_true rfl, Nat.le_of_ble_eq_true rfl, ?_⟩) | (refine ⟨Nat.le_of_ble_eq_true rfl, Nat.le_of_ble_eq_true rfl, Nat.le_of_ble_eq_true rfl, ?_⟩))
          exact ⟨rfl, Or.inl rfl, hQ _ _ _ M G, by decide, by decide⟩
      iterate 2 (refine hP _ _ _ _ _ _ ?_; conv => whnf)
      refine ⟨fun q3 => ?_, fun q3 => ?_⟩
      · have q3' : ¬ f < 0 := fun z => i32_lt_nle z q3
        repeat (first | (refine hP _ _ _ _ _ _ ?_; conv => whnf) | (refine ⟨fun q => absurd q (by decide), fun _ => ?_⟩) | (refine ⟨fun _ => ?_, fun q => absurd (by decide) q⟩) | (refine ac_get M.1 ?_; conv => whnf) | (refine ⟨_, M.1, Nat.le_of_ble_eq_true rfl, Nat.le_of_ble_eq_true rfl, Nat.le_of_ble_eq_true rfl, ?_⟩) | (refine ⟨Nat.le_of_ble_eq_true rfl, Nat.le_of_ble_eq_true rfl, Nat.le_of_ble_eq_true rfl, ?_⟩))
        obtain ⟨t, ht, rfl⟩ := m_badN (i := f) (z := 8) (by decide) (fun z => q2 (Or.inr (z.elim (fun z => absurd z q3') (fun z => ((m_bad7.mpr (Or.inr z)).elim (fun z => absurd z q3') id)))))
        refine md_rg M rfl ht ?_
        exact T _ (by unfold m_cf; rw [if_neg q3', nI_clamp (by omega)]) (m_wr W ht)
      · iterate 2 (refine hP _ _ _ _ _ _ ?_; conv => whnf)
        exact T none (if_pos (i32_nle q3)) (fun j z => by cases z)
theorem R_lose (M : m_md h mm ar S ve el co) (W : m_wf S) {r w : Int32} (hQ : m_app (fun x a S' => ∀ h' ve el, m_md h' mm ar S' ve el (m_ct 0 x) → m_fr mm ar h h' → Q (.inl (some (.int a))) h') (f_lose S r w)) : T_X6_lose [.ref mm, .int r, .int w] h Q := by
  have G : m_fr mm ar h h := m_fr0
  unfold f_lose at hQ
  (intro P hP; conv => whnf)
  repeat (first | (refine hP _ _ _ _ _ _ ?_; conv => whnf) | (refine ⟨fun q => absurd q (by decide), fun _ => ?_⟩) | (refine ⟨fun _ => ?_, fun q => absurd (by decide) q⟩) | (refine ac_get M.1 ?_; conv => whnf) | (refine ⟨_, M.1, Nat.le_of_ble_eq_true rfl, Nat.le_of_ble_eq_true rfl, Nat.le_of_ble_eq_true rfl, ?_⟩) | (refine ⟨Nat.le_of_ble_eq_true rfl, Nat.le_of_ble_eq_true rfl, Nat.le_of_ble_eq_true rfl, ?_⟩))
  refine r_known M (fun q h M F => ?_) (fun q h M F => ?_)
  · replace G := m_frT G F
    rw [if_pos (q.elim id (fun z => absurd z (by decide)))] at hQ
    repeat (first | (refine hP _ _ _ _ _ _ ?_; conv => whnf) | (refine ⟨fun q => absurd q (by decide), fun _ => ?_⟩) | (refine ⟨fun _ => ?_, fun q => absurd (by decide) q⟩) | (refine ac_get M.1 ?_; conv => whnf) | (refine ⟨_, M.1, Nat.le_of_ble_eq_true rfl, Nat.le_of_ble_eq_true rfl, Nat.le_of_ble_eq_true rfl, ?_⟩) | (refine ⟨Nat.le_of_ble_eq_true rfl, Nat.le_of_ble_eq_true rfl, Nat.le_of_ble_eq_true rfl, ?_⟩))
    exact ⟨rfl, hQ _ _ _ M G, by decide, by decide⟩
  · replace G := m_frT G F
    rw [if_neg (fun z => q (Or.inl z))] at hQ
    obtain ⟨k, hk, rfl⟩ := m_badN (by decide) (fun z => q (Or.inl z))
    rw [nI_clamp (by omega)] at hQ
    repeat (first | (refine hP _ _ _ _ _ _ ?_; conv => whnf) | (refine ⟨fun q => absurd q (by decide), fun _ => ?_⟩) | (refine ⟨fun _ => ?_, fun q => absurd (by decide) q⟩) | (refine ac_get M.1 ?_; conv => whnf) | (refine ⟨_, M.1, Nat.le_of_ble_eq_true rfl, Nat.le_of_ble_eq_true rfl, Nat.le_of_ble_eq_true rfl, ?_⟩) | (refine ⟨Nat.le_of_ble_eq_true rfl, Nat.le_of_ble_eq_true rfl, Nat.le_of_ble_eq_true rfl, ?_⟩))
    refine md_rg M rfl hk ?_
    cases e : m_rg S k with
    | none =>
      rw [e] at hQ
      repeat (first | (refine hP _ _ _ _ _ _ ?_; conv => whnf) | (refine ⟨fun q => absurd q (by decide), fun _ => ?_⟩) | (refine ⟨fun _ => ?_, fun q => absurd (by decide) q⟩) | (refine ac_get M.1 ?_; conv => whnf) | (refine ⟨_, M.1, Nat.le_of_ble_eq_true rfl, Nat.le_of_ble_eq_true rfl, Nat.le_of_ble_eq_true rfl, ?_⟩) | (refine ⟨Nat.le_of_ble_eq_true rfl, Nat.le_of_ble_eq_true rfl, Nat.le_of_ble_eq_true rfl, ?_⟩))
      (refine r_good0 M (fun h M F => ?_); replace G := m_frT G F)
      repeat (first | (refine hP _ _ _ _ _ _ ?_; conv => whnf) | (refine ⟨fun q => absurd q (by decide), fun _ => ?_⟩) | (refine ⟨fun _ => ?_, fun q => absurd (by decide) q⟩) | (refine ac_get M.1 ?_; conv => whnf) | (refine ⟨_, M.1, Nat.le_of_ble_eq_true rfl, Nat.le_of_ble_eq_true rfl, Nat.le_of_ble_eq_true rfl, ?_⟩) | (refine ⟨Nat.le_of_ble_eq_true rfl, Nat.le_of_ble_eq_true rfl, Nat.le_of_ble_eq_true rfl, ?_⟩))
      exact ⟨rfl, hQ _ _ _ M G, by decide, by decide⟩
    | some i =>
      rw [e] at hQ
      replace hQ : m_app _ (i_lose S w i) := hQ
      unfold i_lose at hQ
      have hi := W.2.1 k i hk e
      have hi5 := m_w5 W hi
      obtain ⟨w1, w2, w3, w4, w5, w6, w7, w8, w9, w10⟩ := W.2.2 i hi
      repeat (first | (refine hP _ _ _ _ _ _ ?_; conv => whnf) | (refine ⟨fun q => absurd q (by decide), fun _ => ?_⟩) | (refine ⟨fun _ => ?_, fun q => absurd (by decide) q⟩) | (refine ac_get M.1 ?_; conv => whnf) | (refine ⟨_, M.1, Nat.le_of_ble_eq_true rfl, Nat.le_of_ble_eq_true rfl, Nat.le_of_ble_eq_true rfl, ?_⟩) | (refine ⟨Nat.le_of_ble_eq_true rfl, Nat.le_of_ble_eq_true rfl, Nat.le_of_ble_eq_true rfl, ?_⟩))
      refine br_f (m_rvS hi5) ?_
      repeat (first | (refine hP _ _ _ _ _ _ ?_; conv => whnf) | (refine ⟨fun q => absurd q (by decide), fun _ => ?_⟩) | (refine ⟨fun _ => ?_, fun q => absurd (by decide) q⟩) | (refine ac_get M.1 ?_; conv => whnf) | (refine ⟨_, M.1, Nat.le_of_ble_eq_true rfl, Nat.le_of_ble_eq_true rfl, Nat.le_of_ble_eq_true rfl, ?_⟩) | (refine ⟨Nat.le_of_ble_eq_true rfl, Nat.le_of_ble_eq_true rfl, Nat.le_of_ble_eq_true rfl, ?_⟩))
      (refine r_good1 M (fun h M F => ?_); replace G := m_frT G F)
      repeat (first | (refine hP _ _ _ _ _ _ ?_; conv => whnf) | (refine ⟨fun q => absurd q (by decide), fun _ => ?_⟩) | (refine ⟨fun _ => ?_, fun q => absurd (by decide) q⟩) | (refine ac_get M.1 ?_; conv => whnf) | (refine ⟨_, M.1, Nat.le_of_ble_eq_true rfl, Nat.le_of_ble_eq_true rfl, Nat.le_of_ble_eq_true rfl, ?_⟩) | (refine ⟨Nat.le_of_ble_eq_true rfl, Nat.le_of_ble_eq_true rfl, Nat.le_of_ble_eq_true rfl, ?_⟩))
      refine md_kd M rfl hi5 ?_
      repeat (first | (refine hP _ _ _ _ _ _ ?_; conv => whnf) | (refine ⟨fun q => absurd q (by decide), fun _ => ?_⟩) | (refine ⟨fun _ => ?_, fun q => absurd (by decide) q⟩) | (refine ac_get M.1 ?_; conv => whnf) | (refine ⟨_, M.1, Nat.le_of_ble_eq_true rfl, Nat.le_of_ble_eq_true rfl, Nat.le_of_ble_eq_true rfl, ?_⟩) | (refine ⟨Nat.le_of_ble_eq_true rfl, Nat.le_of_ble_eq_true rfl, Nat.le_of_ble_eq_true rfl, ?_⟩))
      by_cases k10 : 10 ≤ m_kd S i
      · rw [if_pos k10] at hQ
        refine br_t (nI_le (a := 10) k10 (by omega)) ?_
        repeat (first | (refine hP _ _ _ _ _ _ ?_; conv => whnf) | (refine ⟨fun q => absurd q (by decide), fun _ => ?_⟩) | (refine ⟨fun _ => ?_, fun q => absurd (by decide) q⟩) | (refine ac_get M.1 ?_; conv => whnf) | (refine ⟨_, M.1, Nat.le_of_ble_eq_true rfl, Nat.le_of_ble_eq_true rfl, Nat.le_of_ble_eq_true rfl, ?_⟩) | (refine ⟨Nat.le_of_ble_eq_true rfl, Nat.le_of_ble_eq_true rfl, Nat.le_of_ble_eq_true rfl, ?_⟩))
        (refine r_good0 M (fun h M F => ?_); replace G := m_frT G F)
        repeat (first | (refine hP _ _ _ _ _ _ ?_; conv => whnf) | (refine ⟨fun q => absurd q (by decide), fun _ => ?_⟩) | (refine ⟨fun _ => ?_, fun q => absurd (by decide) q⟩) | (refine ac_get M.1 ?_; conv => whnf) | (refine ⟨_, M.1, Nat.le_of_ble_eq_true rfl, Nat.le_of_ble_eq_true rfl, Nat.le_of_ble_eq_true rfl, ?_⟩) | (refine ⟨Nat.le_of_ble_eq_true rfl, Nat.le_of_ble_eq_true rfl, Nat.le_of_ble_eq_true rfl, ?_⟩))
        exact ⟨rfl, hQ _ _ _ M G, by decide, by decide⟩
      · rw [if_neg k10] at hQ
        refine br_f (nI_ge (b := 10) (by omega) (by decide)) ?_
        repeat (first | (refine hP _ _ _ _ _ _ ?_; conv => whnf) | (refine ⟨fun q => absurd q (by decide), fun _ => ?_⟩) | (refine ⟨fun _ => ?_, fun q => absurd (by decide) q⟩) | (refine ac_get M.1 ?_; conv => whnf) | (refine ⟨_, M.1, Nat.le_of_ble_eq_true rfl, Nat.le_of_ble_eq_true rfl, Nat.le_of_ble_eq_true rfl, ?_⟩) | (refine ⟨Nat.le_of_ble_eq_true rfl, Nat.le_of_ble_eq_true rfl, Nat.le_of_ble_eq_true rfl, ?_⟩))
        (refine r_good1 M (fun h M F => ?_); replace G := m_frT G F)
        repeat (first | (refine hP _ _ _ _ _ _ ?_; conv => whnf) | (refine ⟨fun q => absurd q (by decide), fun _ => ?_⟩) | (refine ⟨fun _ => ?_, fun q => absurd (by decide) q⟩) | (refine ac_get M.1 ?_; conv => whnf) | (refine ⟨_, M.1, Nat.le_of_ble_eq_true rfl, Nat.le_of_ble_eq_true rfl, Nat.le_of_ble_eq_true rfl, ?_⟩) | (refine ⟨Nat.le_of_ble_eq_true rfl, Nat.le_of_ble_eq_true rfl, Nat.le_of_ble_eq_true rfl, ?_⟩))
        refine md_kd M rfl hi5 ?_
        repeat (first | (refine hP _ _ _ _ _ _ ?_; conv => whnf) | (refine ⟨fun q => absurd q (by decide), fun _ => ?_⟩) | (refine ⟨fun _ => ?_, fun q => absurd (by decide) q⟩) | (refine ac_get M.1 ?_; conv => whnf) | (refine ⟨_, M.1, Nat.le_of_ble_eq_true rfl, Nat.le_of_ble_eq_true rfl, Nat.le_of_ble_eq_true rfl, ?_⟩) | (refine ⟨Nat.le_of_ble_eq_true rfl, Nat.le_of_ble_eq_true rfl, Nat.le_of_ble_eq_true rfl, ?_⟩))
        by_cases k9 : m_kd S i = 9
        · rw [if_pos k9] at hQ
          refine br_f (fun z => z (by rw [k9]; rfl)) ?_
          repeat (first | (refine hP _ _ _ _ _ _ ?_; conv => whnf) | (refine ⟨fun q => absurd q (by decide), fun _ => ?_⟩) | (refine ⟨fun _ => ?_, fun q => absurd (by decide) q⟩) | (refine ac_get M.1 ?_; conv => whnf) | (refine ⟨_, M.1, Nat.le_of_ble_eq_true rfl, Nat.le_of_ble_eq_true rfl, Nat.le_of_ble_eq_true rfl, ?_⟩) | (refine ⟨Nat.le_of_ble_eq_true rfl, Nat.le_of_ble_eq_true rfl, Nat.le_of_ble_eq_true rfl, ?_⟩))
          refine md_ln M rfl hi5 ?_
          repeat (first | (refine hP _ _ _ _ _ _ ?_; conv => whnf) | (refine ⟨fun q => absurd q (by decide), fun _ => ?_⟩) | (refine ⟨fun _ => ?_, fun q => absurd (by decide) q⟩) | (refine ac_get M.1 ?_; conv => whnf) | (refine ⟨_, M.1, Nat.le_of_ble_eq_true rfl, Nat.le_of_ble_eq_true rfl, Nat.le_of_ble_eq_true rfl, ?_⟩) | (refine ⟨Nat.le_of_ble_eq_true rfl, Nat.le_of_ble_eq_true rfl, Nat.le_of_ble_eq_true rfl, ?_⟩))
          have hl := (w6 k9).1
          refine r_in (fun q2 => ?_) (fun q2 => ?_)
          · rw [if_pos ((m_badL (by omega)).mp q2)] at hQ
            repeat (first | (refine hP _ _ _ _ _ _ ?_; conv => whnf) | (refine ⟨fun q => absurd q (by decide), fun _ => ?_⟩) | (refine ⟨fun _ => ?_, fun q => absurd (by decide) q⟩) | (refine ac_get M.1 ?_; conv => whnf) | (refine ⟨_, M.1, Nat.le_of_ble_eq_true rfl, Nat.le_of_ble_eq_true rfl, Nat.le_of_ble_eq_true rfl, ?_⟩) | (refine ⟨Nat.le_of_ble_eq_true rfl, Nat.le_of_ble_eq_true rfl, Nat.le_of_ble_eq_true rfl, ?_⟩))
            (refine r_good0 M (fun h M F => ?_); replace G := m_frT G F)
            repeat (first | (refine hP _ _ _ _ _ _ ?_; conv => whnf) | (refine ⟨fun q => absurd q (by decide), fun _ => ?_⟩) | (refine ⟨fun _ => ?_, fun q => absurd (by decide) q⟩) | (refine ac_get M.1 ?_; conv => whnf) | (refine ⟨_, M.1, Nat.le_of_ble_eq_true rfl, Nat.le_of_ble_eq_true rfl, Nat.le_of_ble_eq_true rfl, ?_⟩) | (refine ⟨Nat.le_of_ble_eq_true rfl, Nat.le_of_ble_eq_true rfl, Nat.le_of_ble_eq_true rfl, ?_⟩))
            exact ⟨rfl, hQ _ _ _ M G, by decide, by decide⟩
          · have q2' := fun z => q2 ((m_badL (by omega)).mpr z)
            rw [if_neg q2'] at hQ
            obtain ⟨t, ht, rfl⟩ := m_badN (by omega) q2'
            rw [nI_clamp (by omega)] at hQ
            repeat (first | (refine hP _ _ _ _ _ _ ?_; conv => whnf) | (refine ⟨fun q => absurd q (by decide), fun _ => ?_⟩) | (refine ⟨fun _ => ?_, fun q => absurd (by decide) q⟩) | (refine ac_get M.1 ?_; conv => whnf) | (refine ⟨_, M.1, Nat.le_of_ble_eq_true rfl, Nat.le_of_ble_eq_true rfl, Nat.le_of_ble_eq_true rfl, ?_⟩) | (refine ⟨Nat.le_of_ble_eq_true rfl, Nat.le_of_ble_eq_true rfl, Nat.le_of_ble_eq_true rfl, ?_⟩))
            (refine r_good1 M (fun h M F => ?_); replace G := m_frT G F)
            repeat (first | (refine hP _ _ _ _ _ _ ?_; conv => whnf) | (refine ⟨fun q => absurd q (by decide), fun _ => ?_⟩) | (refine ⟨fun _ => ?_, fun q => absurd (by decide) q⟩) | (refine ac_get M.1 ?_; conv => whnf) | (refine ⟨_, M.1, Nat.le_of_ble_eq_true rfl, Nat.le_of_ble_eq_true rfl, Nat.le_of_ble_eq_true rfl, ?_⟩) | (refine ⟨Nat.le_of_ble_eq_true rfl, Nat.le_of_ble_eq_true rfl, Nat.le_of_ble_eq_true rfl, ?_⟩))
            refine md_lo M (nI_6 i t) (by omega) ?_
            cases e2 : m_lo S (6 * i + t) with
            | true =>
              rw [if_pos e2] at hQ
              repeat (first | (refine hP _ _ _ _ _ _ ?_; conv => whnf) | (refine ⟨fun q => absurd q (by decide), fun _ => ?_⟩) | (refine ⟨fun _ => ?_, fun q => absurd (by decide) q⟩) | (refine ac_get M.1 ?_; conv => whnf) | (refine ⟨_, M.1, Nat.le_of_ble_eq_true rfl, Nat.le_of_ble_eq_true rfl, Nat.le_of_ble_eq_true rfl, ?_⟩) | (refine ⟨Nat.le_of_ble_eq_true rfl, Nat.le_of_ble_eq_true rfl, Nat.le_of_ble_eq_true rfl, ?_⟩))
              (refine r_good0 M (fun h M F => ?_); replace G := m_frT G F)
              repeat (first | (refine hP _ _ _ _ _ _ ?_; conv => whnf) | (refine ⟨fun q => absurd q (by decide), fun _ => ?_⟩) | (refine ⟨fun _ => ?_, fun q => absurd (by decide) q⟩) | (refine ac_get M.1 ?_; conv => whnf) | (refine ⟨_, M.1, Nat.le_of_ble_eq_true rfl, Nat.le_of_ble_eq_true rfl, Nat.le_of_ble_eq_true rfl, ?_⟩) | (refine ⟨Nat.le_of_ble_eq_true rfl, Nat.le_of_ble_eq_true rfl, Nat.le_of_ble_eq_true rfl, ?_⟩))
              exact ⟨rfl, hQ _ _ _ M G, by decide, by decide⟩
            | false =>
              rw [if_neg (by rw [e2]; decide)] at hQ
              repeat (first | (refine hP _ _ _ _ _ _ ?_; conv => whnf) | (refine ⟨fun q => absurd q (by decide), fun _ => ?_⟩) | (refine ⟨fun _ => ?_, fun q => absurd (by decide) q⟩) | (refine ac_get M.1 ?_; conv => whnf) | (refine ⟨_, M.1, Nat.le_of_ble_eq_true rfl, Nat.le_of_ble_eq_true rfl, Nat.le_of_ble_eq_true rfl, ?_⟩) | (refine ⟨Nat.le_of_ble_eq_true rfl, Nat.le_of_ble_eq_true rfl, Nat.le_of_ble_eq_true rfl, ?_⟩))
              (refine r_good1 M (fun h M F => ?_); replace G := m_frT G F)
              repeat (first | (refine hP _ _ _ _ _ _ ?_; conv => whnf) | (refine ⟨fun q => absurd q (by decide), fun _ => ?_⟩) | (refine ⟨fun _ => ?_, fun q => absurd (by decide) q⟩) | (refine ac_get M.1 ?_; conv => whnf) | (refine ⟨_, M.1, Nat.le_of_ble_eq_true rfl, Nat.le_of_ble_eq_true rfl, Nat.le_of_ble_eq_true rfl, ?_⟩) | (refine ⟨Nat.le_of_ble_eq_true rfl, Nat.le_of_ble_eq_true rfl, Nat.le_of_ble_eq_true rfl, ?_⟩))
              refine md_wlo M (o := true) (nI_6 i t) (by omega) rfl (fun h M F => ?_)
              replace G := m_frT G F
              repeat (first | (refine hP _ _ _ _ _ _ ?_; conv => whnf) | (refine ⟨fun q => absurd q (by decide), fun _ => ?_⟩) | (refine ⟨fun _ => ?_, fun q => absurd (by decide) q⟩) | (refine ac_get M.1 ?_; conv => whnf) | (refine ⟨_, M.1, Nat.le_of_ble_eq_true rfl, Nat.le_of_ble_eq_true rfl, Nat.le_of_ble_eq_true rfl, ?_⟩) | (refine ⟨Nat.le_of_ble_eq_true rfl, Nat.le_of_ble_eq_true rfl, Nat.le_of_ble_eq_true rfl, ?_⟩))
              refine md_wd M rfl hi5 ?_
              repeat (first | (refine hP _ _ _ _ _ _ ?_; conv => whnf) | (refine ⟨fun q => absurd q (by decide), fun _ => ?_⟩) | (refine ⟨fun _ => ?_, fun q => absurd (by decide) q⟩) | (refine ac_get M.1 ?_; conv => whnf) | (refine ⟨_, M.1, Nat.le_of_ble_eq_true rfl, Nat.le_of_ble_eq_true rfl, Nat.le_of_ble_eq_true rfl, ?_⟩) | (refine ⟨Nat.le_of_ble_eq_true rfl, Nat.le_of_ble_eq_true rfl, Nat.le_of_ble_eq_true rfl, ?_⟩))
              exact ⟨rfl, hQ _ _ _ M G, by decide, by decide⟩
        · rw [if_neg k9] at hQ
          refine br_t (nI_ne (b := 9) k9 (by omega) (by decide)) ?_
          repeat (first | (refine hP _ _ _ _ _ _ ?_; conv => whnf) | (refine ⟨fun q => absurd q (by decide), fun _ => ?_⟩) | (refine ⟨fun _ => ?_, fun q => absurd (by decide) q⟩) | (refine ac_get M.1 ?_; conv => whnf) | (refine ⟨_, M.1, Nat.le_of_ble_eq_true rfl, Nat.le_of_ble_eq_true rfl, Nat.le_of_ble_eq_true rfl, ?_⟩) | (refine ⟨Nat.le_of_ble_eq_true rfl, Nat.le_of_ble_eq_true rfl, Nat.le_of_ble_eq_true rfl, ?_⟩))
          refine md_lo M (nI_6 i 0) (by omega) ?_
          cases e2 : m_lo S (6 * i + 0) with
          | true =>
            rw [if_pos (show m_lo S (6 * i) = true from e2)] at hQ
            repeat (first | (refine hP _ _ _ _ _ _ ?_; conv => whnf) | (refine ⟨fun q => absurd q (by decide), fun _ => ?_⟩) | (refine ⟨fun _ => ?_, fun q => absurd (by decide) q⟩) | (refine ac_get M.1 ?_; conv => whnf) | (refine ⟨_, M.1, Nat.le_of_ble_eq_true rfl, Nat.le_of_ble_eq_true rfl, Nat.le_of_ble_eq_true rfl, ?_⟩) | (refine ⟨Nat.le_of_ble_eq_true rfl, Nat.le_of_ble_eq_true rfl, Nat.le_of_ble_eq_true rfl, ?_⟩))
            (refine r_good0 M (fun h M F => ?_); replace G := m_frT G F)
            repeat (first | (refine hP _ _ _ _ _ _ ?_; conv => whnf) | (refine ⟨fun q => absurd q (by decide), fun _ => ?_⟩) | (refine ⟨fun _ => ?_, fun q => absurd (by decide) q⟩) | (refine ac_get M.1 ?_; conv => whnf) | (refine ⟨_, M.1, Nat.le_of_ble_eq_true rfl, Nat.le_of_ble_eq_true rfl, Nat.le_of_ble_eq_true rfl, ?_⟩) | (refine ⟨Nat.le_of_ble_eq_true rfl, Nat.le_of_ble_eq_true rfl, Nat.le_of_ble_eq_true rfl, ?_⟩))
            exact ⟨rfl, hQ _ _ _ M G, by decide, by decide⟩
          | false =>
            rw [if_neg (fun z => by rw [Nat.add_zero] at e2; rw [e2] at z; cases z)] at hQ
            repeat (first | (refine hP _ _ _ _ _ _ ?_; conv => whnf) | (refine ⟨fun q => absurd q (by decide), fun _ => ?_⟩) | (refine ⟨fun _ => ?_, fun q => absurd (by decide) q⟩) | (refine ac_get M.1 ?_; conv => whnf) | (refine ⟨_, M.1, Nat.le_of_ble_eq_true rfl, Nat.le_of_ble_eq_true rfl, Nat.le_of_ble_eq_true rfl, ?_⟩) | (refine ⟨Nat.le_of_ble_eq_true rfl, Nat.le_of_ble_eq_true rfl, Nat.le_of_ble_eq_true rfl, ?_⟩))
            (refine r_good1 M (fun h M F => ?_); replace G := m_frT G F)
            repeat (first | (refine hP _ _ _ _ _ _ ?_; conv => whnf) | (refine ⟨fun q => absurd q (by decide), fun _ => ?_⟩) | (refine ⟨fun _ => ?_, fun q => absurd (by decide) q⟩) | (refine ac_get M.1 ?_; conv => whnf) | (refine ⟨_, M.1, Nat.le_of_ble_eq_true rfl, Nat.le_of_ble_eq_true rfl, Nat.le_of_ble_eq_true rfl, ?_⟩) | (refine ⟨Nat.le_of_ble_eq_true rfl, Nat.le_of_ble_eq_true rfl, Nat.le_of_ble_eq_true rfl, ?_⟩))
            refine md_wlo M (o := true) (nI_6 i 0) (by omega) rfl (fun h M F => ?_)
            replace G := m_frT G F
            repeat (first | (refine hP _ _ _ _ _ _ ?_; conv => whnf) | (refine ⟨fun q => absurd q (by decide), fun _ => ?_⟩) | (refine ⟨fun _ => ?_, fun q => absurd (by decide) q⟩) | (refine ac_get M.1 ?_; conv => whnf) | (refine ⟨_, M.1, Nat.le_of_ble_eq_true rfl, Nat.le_of_ble_eq_true rfl, Nat.le_of_ble_eq_true rfl, ?_⟩) | (refine ⟨Nat.le_of_ble_eq_true rfl, Nat.le_of_ble_eq_true rfl, Nat.le_of_ble_eq_true rfl, ?_⟩))
            refine md_ln M rfl hi5 ?_
            repeat (first | (refine hP _ _ _ _ _ _ ?_; conv => whnf) | (refine ⟨fun q => absurd q (by decide), fun _ => ?_⟩) | (refine ⟨fun _ => ?_, fun q => absurd (by decide) q⟩) | (refine ac_get M.1 ?_; conv => whnf) | (refine ⟨_, M.1, Nat.le_of_ble_eq_true rfl, Nat.le_of_ble_eq_true rfl, Nat.le_of_ble_eq_true rfl, ?_⟩) | (refine ⟨Nat.le_of_ble_eq_true rfl, Nat.le_of_ble_eq_true rfl, Nat.le_of_ble_eq_true rfl, ?_⟩))
            exact ⟨rfl, hQ _ _ _ M G, by decide, by decide⟩
theorem R_resize (M : m_md h mm ar S ve el co) (W : m_wf S) {r n : Int32} (hQ : m_app (fun x a S' => ∀ h' ve el, m_md h' mm ar S' ve el (m_ct 0 x) → m_fr mm ar h h' → Q (.inl (some (.int a))) h') (f_resize S r n)) : T_X6_resize [.ref mm, .int r, .int n] h Q := by
  have G : m_fr mm ar h h := m_fr0
  unfold f_resize at hQ
  (intro P hP; conv => whnf)
  repeat (first | (refine hP _ _ _ _ _ _ ?_; conv => whnf) | (refine ⟨fun q => absurd q (by decide), fun _ => ?_⟩) | (refine ⟨fun _ => ?_, fun q => absurd (by decide) q⟩) | (refine ac_get M.1 ?_; conv => whnf) | (refine ⟨_, M.1, Nat.le_of_ble_eq_true rfl, Nat.le_of_ble_eq_true rfl, Nat.le_of_ble_eq_true rfl, ?_⟩) | (refine ⟨Nat.le_of_ble_eq_true rfl, Nat.le_of_ble_eq_true rfl, Nat.le_of_ble_eq_true rfl, ?_⟩))
  refine r_in (fun q => ?_) (fun q => ?_)
  · rw [if_pos (Or.inl (m_bad7.mp q))] at hQ
    repeat (first | (refine hP _ _ _ _ _ _ ?_; conv => whnf) | (refine ⟨fun q => absurd q (by decide), fun _ => ?_⟩) | (refine ⟨fun _ => ?_, fun q => absurd (by decide) q⟩) | (refine ac_get M.1 ?_; conv => whnf) | (refine ⟨_, M.1, Nat.le_of_ble_eq_true rfl, Nat.le_of_ble_eq_true rfl, Nat.le_of_ble_eq_true rfl, ?_⟩) | (refine ⟨Nat.le_of_ble_eq_true rfl, Nat.le_of_ble_eq_true rfl, Nat.le_of_ble_eq_true rfl, ?_⟩))
    (refine r_good0 M (fun h M F => ?_); replace G := m_frT G F)
    repeat (first | (refine hP _ _ _ _ _ _ ?_; conv => whnf) | (refine ⟨fun q => absurd q (by decide), fun _ => ?_⟩) | (refine ⟨fun _ => ?_, fun q => absurd (by decide) q⟩) | (refine ac_get M.1 ?_; conv => whnf) | (refine ⟨_, M.1, Nat.le_of_ble_eq_true rfl, Nat.le_of_ble_eq_true rfl, Nat.le_of_ble_eq_true rfl, ?_⟩) | (refine ⟨Nat.le_of_ble_eq_true rfl, Nat.le_of_ble_eq_true rfl, Nat.le_of_ble_eq_true rfl, ?_⟩))
    exact ⟨rfl, hQ _ _ _ M G, by decide, by decide⟩
  · repeat (first | (refine hP _ _ _ _ _ _ ?_; conv => whnf) | (refine ⟨fun q => absurd q (by decide), fun _ => ?_⟩) | (refine ⟨fun _ => ?_, fun q => absurd (by decide) q⟩) | (refine ac_get M.1 ?_; conv => whnf) | (refine ⟨_, M.1, Nat.le_of_ble_eq_true rfl, Nat.le_of_ble_eq_true rfl, Nat.le_of_ble_eq_true rfl, ?_⟩) | (refine ⟨Nat.le_of_ble_eq_true rfl, Nat.le_of_ble_eq_true rfl, Nat.le_of_ble_eq_true rfl, ?_⟩))
    have q' : ¬ m_bad r 8 := fun z => q (m_bad7.mpr z)
    refine ⟨fun q2 => ?_, fun q2 => ?_⟩
    · rw [if_pos (Or.inr q2)] at hQ
      repeat (first | (refine hP _ _ _ _ _ _ ?_; conv => whnf) | (refine ⟨fun q => absurd q (by decide), fun _ => ?_⟩) | (refine ⟨fun _ => ?_, fun q => absurd (by decide) q⟩) | (refine ac_get M.1 ?_; conv => whnf) | (refine ⟨_, M.1, Nat.le_of_ble_eq_true rfl, Nat.le_of_ble_eq_true rfl, Nat.le_of_ble_eq_true rfl, ?_⟩) | (refine ⟨Nat.le_of_ble_eq_true rfl, Nat.le_of_ble_eq_true rfl, Nat.le_of_ble_eq_true rfl, ?_⟩))
      (refine r_good0 M (fun h M F => ?_); replace G := m_frT G F)
      repeat (first | (refine hP _ _ _ _ _ _ ?_; conv => whnf) | (refine ⟨fun q => absurd q (by decide), fun _ => ?_⟩) | (refine ⟨fun _ => ?_, fun q => absurd (by decide) q⟩) | (refine ac_get M.1 ?_; conv => whnf) | (refine ⟨_, M.1, Nat.le_of_ble_eq_true rfl, Nat.le_of_ble_eq_true rfl, Nat.le_of_ble_eq_true rfl, ?_⟩) | (refine ⟨Nat.le_of_ble_eq_true rfl, Nat.le_of_ble_eq_true rfl, Nat.le_of_ble_eq_true rfl, ?_⟩))
      exact ⟨rfl, hQ _ _ _ M G, by decide, by decide⟩
    · rw [if_neg (fun z => z.elim q' q2)] at hQ
      repeat (first | (refine hP _ _ _ _ _ _ ?_; conv => whnf) | (refine ⟨fun q => absurd q (by decide), fun _ => ?_⟩) | (refine ⟨fun _ => ?_, fun q => absurd (by decide) q⟩) | (refine ac_get M.1 ?_; conv => whnf) | (refine ⟨_, M.1, Nat.le_of_ble_eq_true rfl, Nat.le_of_ble_eq_true rfl, Nat.le_of_ble_eq_true rfl, ?_⟩) | (refine ⟨Nat.le_of_ble_eq_true rfl, Nat.le_of_ble_eq_true rfl, Nat.le_of_ble_eq_true rfl, ?_⟩))
      (refine r_good1 M (fun h M F => ?_); replace G := m_frT G F)
      repeat (first | (refine hP _ _ _ _ _ _ ?_; conv => whnf) | (refine ⟨fun q => absurd q (by decide), fun _ => ?_⟩) | (refine ⟨fun _ => ?_, fun q => absurd (by decide) q⟩) | (refine ac_get M.1 ?_; conv => whnf) | (refine ⟨_, M.1, Nat.le_of_ble_eq_true rfl, Nat.le_of_ble_eq_true rfl, Nat.le_of_ble_eq_true rfl, ?_⟩) | (refine ⟨Nat.le_of_ble_eq_true rfl, Nat.le_of_ble_eq_true rfl, Nat.le_of_ble_eq_true rfl, ?_⟩))
      obtain ⟨k, hk, rfl⟩ := m_badN (by decide) q'
      rw [nI_clamp (by omega)] at hQ
      refine md_rg M rfl hk ?_
      cases e : m_rg S k with
      | none =>
        rw [e] at hQ
        repeat (first | (refine hP _ _ _ _ _ _ ?_; conv => whnf) | (refine ⟨fun q => absurd q (by decide), fun _ => ?_⟩) | (refine ⟨fun _ => ?_, fun q => absurd (by decide) q⟩) | (refine ac_get M.1 ?_; conv => whnf) | (refine ⟨_, M.1, Nat.le_of_ble_eq_true rfl, Nat.le_of_ble_eq_true rfl, Nat.le_of_ble_eq_true rfl, ?_⟩) | (refine ⟨Nat.le_of_ble_eq_true rfl, Nat.le_of_ble_eq_true rfl, Nat.le_of_ble_eq_true rfl, ?_⟩))
        (refine r_good0 M (fun h M F => ?_); replace G := m_frT G F)
        repeat (first | (refine hP _ _ _ _ _ _ ?_; conv => whnf) | (refine ⟨fun q => absurd q (by decide), fun _ => ?_⟩) | (refine ⟨fun _ => ?_, fun q => absurd (by decide) q⟩) | (refine ac_get M.1 ?_; conv => whnf) | (refine ⟨_, M.1, Nat.le_of_ble_eq_true rfl, Nat.le_of_ble_eq_true rfl, Nat.le_of_ble_eq_true rfl, ?_⟩) | (refine ⟨Nat.le_of_ble_eq_true rfl, Nat.le_of_ble_eq_true rfl, Nat.le_of_ble_eq_true rfl, ?_⟩))
        exact ⟨rfl, hQ _ _ _ M G, by decide, by decide⟩
      | some i =>
        rw [e] at hQ
        replace hQ : m_app _ (i_resize S n i) := hQ
        unfold i_resize at hQ
        have hi := W.2.1 k i hk e
        have hi5 := m_w5 W hi
        obtain ⟨w1, w2, w3, w4, w5, w6, w7, w8, w9, w10⟩ := W.2.2 i hi
        repeat (first | (refine hP _ _ _ _ _ _ ?_; conv => whnf) | (refine ⟨fun q => absurd q (by decide), fun _ => ?_⟩) | (refine ⟨fun _ => ?_, fun q => absurd (by decide) q⟩) | (refine ac_get M.1 ?_; conv => whnf) | (refine ⟨_, M.1, Nat.le_of_ble_eq_true rfl, Nat.le_of_ble_eq_true rfl, Nat.le_of_ble_eq_true rfl, ?_⟩) | (refine ⟨Nat.le_of_ble_eq_true rfl, Nat.le_of_ble_eq_true rfl, Nat.le_of_ble_eq_true rfl, ?_⟩))
        refine br_f (m_rvS hi5) ?_
        repeat (first | (refine hP _ _ _ _ _ _ ?_; conv => whnf) | (refine ⟨fun q => absurd q (by decide), fun _ => ?_⟩) | (refine ⟨fun _ => ?_, fun q => absurd (by decide) q⟩) | (refine ac_get M.1 ?_; conv => whnf) | (refine ⟨_, M.1, Nat.le_of_ble_eq_true rfl, Nat.le_of_ble_eq_true rfl, Nat.le_of_ble_eq_true rfl, ?_⟩) | (refine ⟨Nat.le_of_ble_eq_true rfl, Nat.le_of_ble_eq_true rfl, Nat.le_of_ble_eq_true rfl, ?_⟩))
        (refine r_good1 M (fun h M F => ?_); replace G := m_frT G F)
        repeat (first | (refine hP _ _ _ _ _ _ ?_; conv => whnf) | (refine ⟨fun q => absurd q (by decide), fun _ => ?_⟩) | (refine ⟨fun _ => ?_, fun q => absurd (by decide) q⟩) | (refine ac_get M.1 ?_; conv => whnf) | (refine ⟨_, M.1, Nat.le_of_ble_eq_true rfl, Nat.le_of_ble_eq_true rfl, Nat.le_of_ble_eq_true rfl, ?_⟩) | (refine ⟨Nat.le_of_ble_eq_true rfl, Nat.le_of_ble_eq_true rfl, Nat.le_of_ble_eq_true rfl, ?_⟩))
        refine md_kd M rfl hi5 ?_
        repeat (first | (refine hP _ _ _ _ _ _ ?_; conv => whnf) | (refine ⟨fun q => absurd q (by decide), fun _ => ?_⟩) | (refine ⟨fun _ => ?_, fun q => absurd (by decide) q⟩) | (refine ac_get M.1 ?_; conv => whnf) | (refine ⟨_, M.1, Nat.le_of_ble_eq_true rfl, Nat.le_of_ble_eq_true rfl, Nat.le_of_ble_eq_true rfl, ?_⟩) | (refine ⟨Nat.le_of_ble_eq_true rfl, Nat.le_of_ble_eq_true rfl, Nat.le_of_ble_eq_true rfl, ?_⟩))
        by_cases k9 : 9 ≤ m_kd S i
        · rw [if_pos k9] at hQ
          refine br_t (nI_le (a := 9) k9 (by omega)) ?_
          repeat (first | (refine hP _ _ _ _ _ _ ?_; conv => whnf) | (refine ⟨fun q => absurd q (by decide), fun _ => ?_⟩) | (refine ⟨fun _ => ?_, fun q => absurd (by decide) q⟩) | (refine ac_get M.1 ?_; conv => whnf) | (refine ⟨_, M.1, Nat.le_of_ble_eq_true rfl, Nat.le_of_ble_eq_true rfl, Nat.le_of_ble_eq_true rfl, ?_⟩) | (refine ⟨Nat.le_of_ble_eq_true rfl, Nat.le_of_ble_eq_true rfl, Nat.le_of_ble_eq_true rfl, ?_⟩))
          (refine r_good0 M (fun h M F => ?_); replace G := m_frT G F)
          repeat (first | (refine hP _ _ _ _ _ _ ?_; conv => whnf) | (refine ⟨fun q => absurd q (by decide), fun _ => ?_⟩) | (refine ⟨fun _ => ?_, fun q => absurd (by decide) q⟩) | (refine ac_get M.1 ?_; conv => whnf) | (refine ⟨_, M.1, Nat.le_of_ble_eq_true rfl, Nat.le_of_ble_eq_true rfl, Nat.le_of_ble_eq_true rfl, ?_⟩) | (refine ⟨Nat.le_of_ble_eq_true rfl, Nat.le_of_ble_eq_true rfl, Nat.le_of_ble_eq_true rfl, ?_⟩))
          exact ⟨rfl, hQ _ _ _ M G, by decide, by decide⟩
        · rw [if_neg k9] at hQ
          refine br_f (nI_ge (b := 9) (by omega) (by decide)) ?_
          repeat (first | (refine hP _ _ _ _ _ _ ?_; conv => whnf) | (refine ⟨fun q => absurd q (by decide), fun _ => ?_⟩) | (refine ⟨fun _ => ?_, fun q => absurd (by decide) q⟩) | (refine ac_get M.1 ?_; conv => whnf) | (refine ⟨_, M.1, Nat.le_of_ble_eq_true rfl, Nat.le_of_ble_eq_true rfl, Nat.le_of_ble_eq_true rfl, ?_⟩) | (refine ⟨Nat.le_of_ble_eq_true rfl, Nat.le_of_ble_eq_true rfl, Nat.le_of_ble_eq_true rfl, ?_⟩))
          (refine r_good1 M (fun h M F => ?_); replace G := m_frT G F)
          repeat (first | (refine hP _ _ _ _ _ _ ?_; conv => whnf) | (refine ⟨fun q => absurd q (by decide), fun _ => ?_⟩) | (refine ⟨fun _ => ?_, fun q => absurd (by decide) q⟩) | (refine ac_get M.1 ?_; conv => whnf) | (refine ⟨_, M.1, Nat.le_of_ble_eq_true rfl, Nat.le_of_ble_eq_true rfl, Nat.le_of_ble_eq_true rfl, ?_⟩) | (refine ⟨Nat.le_of_ble_eq_true rfl, Nat.le_of_ble_eq_true rfl, Nat.le_of_ble_eq_true rfl, ?_⟩))
          refine ⟨fun q4 => ?_, fun q4 => ?_⟩
          · rw [if_pos q4] at hQ
            repeat (first | (refine hP _ _ _ _ _ _ ?_; conv => whnf) | (refine ⟨fun q => absurd q (by decide), fun _ => ?_⟩) | (refine ⟨fun _ => ?_, fun q => absurd (by decide) q⟩) | (refine ac_get M.1 ?_; conv => whnf) | (refine ⟨_, M.1, Nat.le_of_ble_eq_true rfl, Nat.le_of_ble_eq_true rfl, Nat.le_of_ble_eq_true rfl, ?_⟩) | (refine ⟨Nat.le_of_ble_eq_true rfl, Nat.le_of_ble_eq_true rfl, Nat.le_of_ble_eq_true rfl, ?_⟩))
            (refine r_good0 M (fun h M F => ?_); replace G := m_frT G F)
            repeat (first | (refine hP _ _ _ _ _ _ ?_; conv => whnf) | (refine ⟨fun q => absurd q (by decide), fun _ => ?_⟩) | (refine ⟨fun _ => ?_, fun q => absurd (by decide) q⟩) | (refine ac_get M.1 ?_; conv => whnf) | (refine ⟨_, M.1, Nat.le_of_ble_eq_true rfl, Nat.le_of_ble_eq_true rfl, Nat.le_of_ble_eq_true rfl, ?_⟩) | (refine ⟨Nat.le_of_ble_eq_true rfl, Nat.le_of_ble_eq_true rfl, Nat.le_of_ble_eq_true rfl, ?_⟩))
            exact ⟨rfl, hQ _ _ _ M G, by decide, by decide⟩
          · rw [if_neg q4] at hQ
            repeat (first | (refine hP _ _ _ _ _ _ ?_; conv => whnf) | (refine ⟨fun q => absurd q (by decide), fun _ => ?_⟩) | (refine ⟨fun _ => ?_, fun q => absurd (by decide) q⟩) | (refine ac_get M.1 ?_; conv => whnf) | (refine ⟨_, M.1, Nat.le_of_ble_eq_true rfl, Nat.le_of_ble_eq_true rfl, Nat.le_of_ble_eq_true rfl, ?_⟩) | (refine ⟨Nat.le_of_ble_eq_true rfl, Nat.le_of_ble_eq_true rfl, Nat.le_of_ble_eq_true rfl, ?_⟩))
            (refine r_good1 M (fun h M F => ?_); replace G := m_frT G F)
            repeat (first | (refine hP _ _ _ _ _ _ ?_; conv => whnf) | (refine ⟨fun q => absurd q (by decide), fun _ => ?_⟩) | (refine ⟨fun _ => ?_, fun q => absurd (by decide) q⟩) | (refine ac_get M.1 ?_; conv => whnf) | (refine ⟨_, M.1, Nat.le_of_ble_eq_true rfl, Nat.le_of_ble_eq_true rfl, Nat.le_of_ble_eq_true rfl, ?_⟩) | (refine ⟨Nat.le_of_ble_eq_true rfl, Nat.le_of_ble_eq_true rfl, Nat.le_of_ble_eq_true rfl, ?_⟩))
            refine md_lo M (nI_mul 6 i) (by omega) ?_
            cases e2 : m_lo S (6 * i) with
            | true =>
              rw [if_pos e2] at hQ
              repeat (first | (refine hP _ _ _ _ _ _ ?_; conv => whnf) | (refine ⟨fun q => absurd q (by decide), fun _ => ?_⟩) | (refine ⟨fun _ => ?_, fun q => absurd (by decide) q⟩) | (refine ac_get M.1 ?_; conv => whnf) | (refine ⟨_, M.1, Nat.le_of_ble_eq_true rfl, Nat.le_of_ble_eq_true rfl, Nat.le_of_ble_eq_true rfl, ?_⟩) | (refine ⟨Nat.le_of_ble_eq_true rfl, Nat.le_of_ble_eq_true rfl, Nat.le_of_ble_eq_true rfl, ?_⟩))
              (refine r_good0 M (fun h M F => ?_); replace G := m_frT G F)
              repeat (first | (refine hP _ _ _ _ _ _ ?_; conv => whnf) | (refine ⟨fun q => absurd q (by decide), fun _ => ?_⟩) | (refine ⟨fun _ => ?_, fun q => absurd (by decide) q⟩) | (refine ac_get M.1 ?_; conv => whnf) | (refine ⟨_, M.1, Nat.le_of_ble_eq_true rfl, Nat.le_of_ble_eq_true rfl, Nat.le_of_ble_eq_true rfl, ?_⟩) | (refine ⟨Nat.le_of_ble_eq_true rfl, Nat.le_of_ble_eq_true rfl, Nat.le_of_ble_eq_true rfl, ?_⟩))
              exact ⟨rfl, hQ _ _ _ M G, by decide, by decide⟩
            | false =>
              rw [if_neg (by rw [e2]; decide)] at hQ
              repeat (first | (refine hP _ _ _ _ _ _ ?_; conv => whnf) | (refine ⟨fun q => absurd q (by decide), fun _ => ?_⟩) | (refine ⟨fun _ => ?_, fun q => absurd (by decide) q⟩) | (refine ac_get M.1 ?_; conv => whnf) | (refine ⟨_, M.1, Nat.le_of_ble_eq_true rfl, Nat.le_of_ble_eq_true rfl, Nat.le_of_ble_eq_true rfl, ?_⟩) | (refine ⟨Nat.le_of_ble_eq_true rfl, Nat.le_of_ble_eq_true rfl, Nat.le_of_ble_eq_true rfl, ?_⟩))
              (refine r_good1 M (fun h M F => ?_); replace G := m_frT G F)
              repeat (first | (refine hP _ _ _ _ _ _ ?_; conv => whnf) | (refine ⟨fun q => absurd q (by decide), fun _ => ?_⟩) | (refine ⟨fun _ => ?_, fun q => absurd (by decide) q⟩) | (refine ac_get M.1 ?_; conv => whnf) | (refine ⟨_, M.1, Nat.le_of_ble_eq_true rfl, Nat.le_of_ble_eq_true rfl, Nat.le_of_ble_eq_true rfl, ?_⟩) | (refine ⟨Nat.le_of_ble_eq_true rfl, Nat.le_of_ble_eq_true rfl, Nat.le_of_ble_eq_true rfl, ?_⟩))
              obtain ⟨u, hu, rfl⟩ := nI_of q4
              have hu24 : u ≤ 24 := by
                have : ¬ 24 < u := fun z => q2 (nI_lt (a := 24) z hu)
                omega
              rw [nI_clamp hu] at hQ
              have L : ∀ d j hd kp, j + d = 24 → kp ≤ j → m_kp S i u = kp → m_md hd mm ar (m_sstF S (m_fil (m_st S) i kp j (fun _ => if m_kd S i = 8 then -1 else 0))) ve el 0 → m_fr mm ar h hd → P 149 [some (.ref mm), some (.int (nI k)), some (.int (nI u)), some (.int (m_rv (some i))), some (.int (nI kp)), some (.int (nI j))] [] hd 0 0 := by
                intro d
                induction d with
                | zero =>
                  intro j hd kp e3 hj ek M G2
                  have e4 : j = 24 := by omega
                  subst e4
                  subst ek
                  repeat (first | (refine hP _ _ _ _ _ _ ?_; conv => whnf) | (refine ⟨fun q => absurd q (by decide), fun _ => ?_⟩) | (refine ⟨fun _ => ?_, fun q => absurd (by decide) q⟩) | (refine ac_get M.1 ?_; conv => whnf) | (refine ⟨_, M.1, Nat.le_of_ble_eq_true rfl, Nat.le_of_ble_eq_true rfl, Nat.le_of_ble_eq_true rfl, ?_⟩) | (refine ⟨Nat.le_of_ble_eq_true rfl, Nat.le_of_ble_eq_true rfl, Nat.le_of_ble_eq_true rfl, ?_⟩))
                  refine md_wln M (q := i) (o := u) rfl hi5 rfl (fun h M F => ?_)
                  replace G := m_frT G (m_frT G2 F)
                  repeat (first | (refine hP _ _ _ _ _ _ ?_; conv => whnf) | (refine ⟨fun q => absurd q (by decide), fun _ => ?_⟩) | (refine ⟨fun _ => ?_, fun q => absurd (by decide) q⟩) | (refine ac_get M.1 ?_; conv => whnf) | (refine ⟨_, M.1, Nat.le_of_ble_eq_true rfl, Nat.le_of_ble_eq_true rfl, Nat.le_of_ble_eq_true rfl, ?_⟩) | (refine ⟨Nat.le_of_ble_eq_true rfl, Nat.le_of_ble_eq_true rfl, Nat.le_of_ble_eq_true rfl, ?_⟩))
                  exact ⟨rfl, hQ _ _ _ M G, by decide, by decide⟩
                | succ d ih =>
                  intro j hd kp e3 hj ek M G2
                  have T : ∀ v, v = (fun _ => if m_kd S i = 8 then (-1 : Int64) else 0) j → P 185 [some (.ref mm), some (.int (nI k)), some (.int (nI u)), some (.int (m_rv (some i))), some (.int (nI kp)), some (.int (nI j))] [.long v, .int (24 * m_rv (some i) + nI j), .ref (ar 6)] hd 0 0 := by
                    intro v hv
                    repeat (first | (refine hP _ _ _ _ _ _ ?_; conv => whnf) | (refine ⟨fun q => absurd q (by decide), fun _ => ?_⟩) | (refine ⟨fun _ => ?_, fun q => absurd (by decide) q⟩) | (refine ac_get M.1 ?_; conv => whnf) | (refine ⟨_, M.1, Nat.le_of_ble_eq_true rfl, Nat.le_of_ble_eq_true rfl, Nat.le_of_ble_eq_true rfl, ?_⟩) | (refine ⟨Nat.le_of_ble_eq_true rfl, Nat.le_of_ble_eq_true rfl, Nat.le_of_ble_eq_true rfl, ?_⟩))
                    refine md_wst M (nI_24 i j) (by omega) hv (fun he M F => ?_)
                    iterate 2 (refine hP _ _ _ _ _ _ ?_; conv => whnf)
                    rw [nI_1]
                    refine ih (j + 1) he kp (by omega) (by omega) ek ?_ (m_frT G2 F)
                    have e2 : m_sst (m_sstF S (m_fil (m_st S) i kp j (fun _ => if m_kd S i = 8 then -1 else 0))) (24 * i + j) ((fun _ => if m_kd S i = 8 then (-1 : Int64) else 0) j) = m_sstF S (vp_updL (m_fil (m_st S) i kp j (fun _ => if m_kd S i = 8 then -1 else 0)) (24 * i + j) ((fun _ => if m_kd S i = 8 then (-1 : Int64) else 0) j)) := rfl
                    rw [e2, m_filS hj] at M
                    exact M
                  repeat (first | (refine hP _ _ _ _ _ _ ?_; conv => whnf) | (refine ⟨fun q => absurd q (by decide), fun _ => ?_⟩) | (refine ⟨fun _ => ?_, fun q => absurd (by decide) q⟩) | (refine ac_get M.1 ?_; conv => whnf) | (refine ⟨_, M.1, Nat.le_of_ble_eq_true rfl, Nat.le_of_ble_eq_true rfl, Nat.le_of_ble_eq_true rfl, ?_⟩) | (refine ⟨Nat.le_of_ble_eq_true rfl, Nat.le_of_ble_eq_true rfl, Nat.le_of_ble_eq_true rfl, ?_⟩))
                  refine br_f (nI_ge (b := 24) (by omega) (by decide)) ?_
                  repeat (first | (refine hP _ _ _ _ _ _ ?_; conv => whnf) | (refine ⟨fun q => absurd q (by decide), fun _ => ?_⟩) | (refine ⟨fun _ => ?_, fun q => absurd (by decide) q⟩) | (refine ac_get M.1 ?_; conv => whnf) | (refine ⟨_, M.1, Nat.le_of_ble_eq_true rfl, Nat.le_of_ble_eq_true rfl, Nat.le_of_ble_eq_true rfl, ?_⟩) | (refine ⟨Nat.le_of_ble_eq_true rfl, Nat.le_of_ble_eq_true rfl, Nat.le_of_ble_eq_true rfl, ?_⟩))
                  refine md_kd M (q := i) rfl hi5 ?_
                  repeat (first | (refine hP _ _ _ _ _ _ ?_; conv => whnf) | (refine ⟨fun q => absurd q (by decide), fun _ => ?_⟩) | (refine ⟨fun _ => ?_, fun q => absurd (by decide) q⟩) | (refine ac_get M.1 ?_; conv => whnf) | (refine ⟨_, M.1, Nat.le_of_ble_eq_true rfl, Nat.le_of_ble_eq_true rfl, Nat.le_of_ble_eq_true rfl, ?_⟩) | (refine ⟨Nat.le_of_ble_eq_true rfl, Nat.le_of_ble_eq_true rfl, Nat.le_of_ble_eq_true rfl, ?_⟩))
                  by_cases k8 : m_kd S i = 8
                  · refine br_f (fun z => z (by show nI (m_kd S i) = 8; rw [k8]; rfl)) ?_
                    iterate 2 (refine hP _ _ _ _ _ _ ?_; conv => whnf)
                    exact T _ (if_pos k8).symm
                  · refine br_t (nI_ne (a := m_kd S i) (b := 8) k8 (by omega) (by decide)) ?_
                    iterate 1 (refine hP _ _ _ _ _ _ ?_; conv => whnf)
                    exact T _ (if_neg k8).symm
              have M' : m_md h mm ar (m_sstF S (m_fil (m_st S) i (m_kp S i u) (m_kp S i u) (fun _ => if m_kd S i = 8 then -1 else 0))) ve el 0 := by
                rw [m_fil0]
                exact M
              refine md_ln M (q := i) rfl hi5 ?_
              repeat (first | (refine hP _ _ _ _ _ _ ?_; conv => whnf) | (refine ⟨fun q => absurd q (by decide), fun _ => ?_⟩) | (refine ⟨fun _ => ?_, fun q => absurd (by decide) q⟩) | (refine ac_get M.1 ?_; conv => whnf) | (refine ⟨_, M.1, Nat.le_of_ble_eq_true rfl, Nat.le_of_ble_eq_true rfl, Nat.le_of_ble_eq_true rfl, ?_⟩) | (refine ⟨Nat.le_of_ble_eq_true rfl, Nat.le_of_ble_eq_true rfl, Nat.le_of_ble_eq_true rfl, ?_⟩))
              by_cases c : m_ln S i < u
              · refine br_f (nI_ge c hu) ?_
                repeat (first | (refine hP _ _ _ _ _ _ ?_; conv => whnf) | (refine ⟨fun q => absurd q (by decide), fun _ => ?_⟩) | (refine ⟨fun _ => ?_, fun q => absurd (by decide) q⟩) | (refine ac_get M.1 ?_; conv => whnf) | (refine ⟨_, M.1, Nat.le_of_ble_eq_true rfl, Nat.le_of_ble_eq_true rfl, Nat.le_of_ble_eq_true rfl, ?_⟩) | (refine ⟨Nat.le_of_ble_eq_true rfl, Nat.le_of_ble_eq_true rfl, Nat.le_of_ble_eq_true rfl, ?_⟩))
                refine md_ln M (q := i) rfl hi5 ?_
                iterate 4 (refine hP _ _ _ _ _ _ ?_; conv => whnf)
                have ek : m_kp S i u = m_ln S i := if_pos c
                rw [ek] at M'
                exact L (24 - m_ln S i) _ h _ (by omega) (Nat.le_refl _) ek M' m_fr0
              · refine br_t (nI_le (by omega) (by omega)) ?_
                iterate 4 (refine hP _ _ _ _ _ _ ?_; conv => whnf)
                have ek : m_kp S i u = u := if_neg c
                rw [ek] at M'
                exact L (24 - u) _ h _ (by omega) (Nat.le_refl _) ek M' m_fr0
theorem R_size (M : m_md h mm ar S ve el co) (W : m_wf S) {r : Int32} (hQ : m_app (fun x a S' => ∀ h' ve el, m_md h' mm ar S' ve el (m_ct 0 x) → m_fr mm ar h h' → Q (.inl (some (.int a))) h') (f_size S r)) : T_X6_size [.ref mm, .int r] h Q := by
  have G : m_fr mm ar h h := m_fr0
  unfold f_size at hQ
  (intro P hP; conv => whnf)
  repeat (first | (refine hP _ _ _ _ _ _ ?_; conv => whnf) | (refine ⟨fun q => absurd q (by decide), fun _ => ?_⟩) | (refine ⟨fun _ => ?_, fun q => absurd (by decide) q⟩) | (refine ac_get M.1 ?_; conv => whnf) | (refine ⟨_, M.1, Nat.le_of_ble_eq_true rfl, Nat.le_of_ble_eq_true rfl, Nat.le_of_ble_eq_true rfl, ?_⟩) | (refine ⟨Nat.le_of_ble_eq_true rfl, Nat.le_of_ble_eq_true rfl, Nat.le_of_ble_eq_true rfl, ?_⟩))
  refine r_known M (fun q h M F => ?_) (fun q h M F => ?_)
  · replace G := m_frT G F
    rw [if_pos (q.elim id (fun z => absurd z (by decide)))] at hQ
    repeat (first | (refine hP _ _ _ _ _ _ ?_; conv => whnf) | (refine ⟨fun q => absurd q (by decide), fun _ => ?_⟩) | (refine ⟨fun _ => ?_, fun q => absurd (by decide) q⟩) | (refine ac_get M.1 ?_; conv => whnf) | (refine ⟨_, M.1, Nat.le_of_ble_eq_true rfl, Nat.le_of_ble_eq_true rfl, Nat.le_of_ble_eq_true rfl, ?_⟩) | (refine ⟨Nat.le_of_ble_eq_true rfl, Nat.le_of_ble_eq_true rfl, Nat.le_of_ble_eq_true rfl, ?_⟩))
    exact ⟨rfl, hQ _ _ _ M G, by decide, by decide⟩
  · replace G := m_frT G F
    rw [if_neg (fun z => q (Or.inl z))] at hQ
    obtain ⟨k, hk, rfl⟩ := m_badN (by decide) (fun z => q (Or.inl z))
    rw [nI_clamp (by omega)] at hQ
    repeat (first | (refine hP _ _ _ _ _ _ ?_; conv => whnf) | (refine ⟨fun q => absurd q (by decide), fun _ => ?_⟩) | (refine ⟨fun _ => ?_, fun q => absurd (by decide) q⟩) | (refine ac_get M.1 ?_; conv => whnf) | (refine ⟨_, M.1, Nat.le_of_ble_eq_true rfl, Nat.le_of_ble_eq_true rfl, Nat.le_of_ble_eq_true rfl, ?_⟩) | (refine ⟨Nat.le_of_ble_eq_true rfl, Nat.le_of_ble_eq_true rfl, Nat.le_of_ble_eq_true rfl, ?_⟩))
    refine md_rg M rfl hk ?_
    cases e : m_rg S k with
    | none =>
      rw [e] at hQ
      repeat (first | (refine hP _ _ _ _ _ _ ?_; conv => whnf) | (refine ⟨fun q => absurd q (by decide), fun _ => ?_⟩) | (refine ⟨fun _ => ?_, fun q => absurd (by decide) q⟩) | (refine ac_get M.1 ?_; conv => whnf) | (refine ⟨_, M.1, Nat.le_of_ble_eq_true rfl, Nat.le_of_ble_eq_true rfl, Nat.le_of_ble_eq_true rfl, ?_⟩) | (refine ⟨Nat.le_of_ble_eq_true rfl, Nat.le_of_ble_eq_true rfl, Nat.le_of_ble_eq_true rfl, ?_⟩))
      (refine r_good0 M (fun h M F => ?_); replace G := m_frT G F)
      repeat (first | (refine hP _ _ _ _ _ _ ?_; conv => whnf) | (refine ⟨fun q => absurd q (by decide), fun _ => ?_⟩) | (refine ⟨fun _ => ?_, fun q => absurd (by decide) q⟩) | (refine ac_get M.1 ?_; conv => whnf) | (refine ⟨_, M.1, Nat.le_of_ble_eq_true rfl, Nat.le_of_ble_eq_true rfl, Nat.le_of_ble_eq_true rfl, ?_⟩) | (refine ⟨Nat.le_of_ble_eq_true rfl, Nat.le_of_ble_eq_true rfl, Nat.le_of_ble_eq_true rfl, ?_⟩))
      exact ⟨rfl, hQ _ _ _ M G, by decide, by decide⟩
    | some i =>
      rw [e] at hQ
      replace hQ : m_app _ (i_size S i) := hQ
      unfold i_size at hQ
      have hi := W.2.1 k i hk e
      have hi5 := m_w5 W hi
      have hkd := (W.2.2 i hi).1
      repeat (first | (refine hP _ _ _ _ _ _ ?_; conv => whnf) | (refine ⟨fun q => absurd q (by decide), fun _ => ?_⟩) | (refine ⟨fun _ => ?_, fun q => absurd (by decide) q⟩) | (refine ac_get M.1 ?_; conv => whnf) | (refine ⟨_, M.1, Nat.le_of_ble_eq_true rfl, Nat.le_of_ble_eq_true rfl, Nat.le_of_ble_eq_true rfl, ?_⟩) | (refine ⟨Nat.le_of_ble_eq_true rfl, Nat.le_of_ble_eq_true rfl, Nat.le_of_ble_eq_true rfl, ?_⟩))
      refine br_f (m_rvS hi5) ?_
      repeat (first | (refine hP _ _ _ _ _ _ ?_; conv => whnf) | (refine ⟨fun q => absurd q (by decide), fun _ => ?_⟩) | (refine ⟨fun _ => ?_, fun q => absurd (by decide) q⟩) | (refine ac_get M.1 ?_; conv => whnf) | (refine ⟨_, M.1, Nat.le_of_ble_eq_true rfl, Nat.le_of_ble_eq_true rfl, Nat.le_of_ble_eq_true rfl, ?_⟩) | (refine ⟨Nat.le_of_ble_eq_true rfl, Nat.le_of_ble_eq_true rfl, Nat.le_of_ble_eq_true rfl, ?_⟩))
      (refine r_good1 M (fun h M F => ?_); replace G := m_frT G F)
      repeat (first | (refine hP _ _ _ _ _ _ ?_; conv => whnf) | (refine ⟨fun q => absurd q (by decide), fun _ => ?_⟩) | (refine ⟨fun _ => ?_, fun q => absurd (by decide) q⟩) | (refine ac_get M.1 ?_; conv => whnf) | (refine ⟨_, M.1, Nat.le_of_ble_eq_true rfl, Nat.le_of_ble_eq_true rfl, Nat.le_of_ble_eq_true rfl, ?_⟩) | (refine ⟨Nat.le_of_ble_eq_true rfl, Nat.le_of_ble_eq_true rfl, Nat.le_of_ble_eq_true rfl, ?_⟩))
      refine md_kd M rfl hi5 ?_
      repeat (first | (refine hP _ _ _ _ _ _ ?_; conv => whnf) | (refine ⟨fun q => absurd q (by decide), fun _ => ?_⟩) | (refine ⟨fun _ => ?_, fun q => absurd (by decide) q⟩) | (refine ac_get M.1 ?_; conv => whnf) | (refine ⟨_, M.1, Nat.le_of_ble_eq_true rfl, Nat.le_of_ble_eq_true rfl, Nat.le_of_ble_eq_true rfl, ?_⟩) | (refine ⟨Nat.le_of_ble_eq_true rfl, Nat.le_of_ble_eq_true rfl, Nat.le_of_ble_eq_true rfl, ?_⟩))
      by_cases k10 : m_kd S i = 10
      · rw [if_pos k10] at hQ
        refine br_t (by rw [k10]; rfl) ?_
        repeat (first | (refine hP _ _ _ _ _ _ ?_; conv => whnf) | (refine ⟨fun q => absurd q (by decide), fun _ => ?_⟩) | (refine ⟨fun _ => ?_, fun q => absurd (by decide) q⟩) | (refine ac_get M.1 ?_; conv => whnf) | (refine ⟨_, M.1, Nat.le_of_ble_eq_true rfl, Nat.le_of_ble_eq_true rfl, Nat.le_of_ble_eq_true rfl, ?_⟩) | (refine ⟨Nat.le_of_ble_eq_true rfl, Nat.le_of_ble_eq_true rfl, Nat.le_of_ble_eq_true rfl, ?_⟩))
        (refine r_good0 M (fun h M F => ?_); replace G := m_frT G F)
        repeat (first | (refine hP _ _ _ _ _ _ ?_; conv => whnf) | (refine ⟨fun q => absurd q (by decide), fun _ => ?_⟩) | (refine ⟨fun _ => ?_, fun q => absurd (by decide) q⟩) | (refine ac_get M.1 ?_; conv => whnf) | (refine ⟨_, M.1, Nat.le_of_ble_eq_true rfl, Nat.le_of_ble_eq_true rfl, Nat.le_of_ble_eq_true rfl, ?_⟩) | (refine ⟨Nat.le_of_ble_eq_true rfl, Nat.le_of_ble_eq_true rfl, Nat.le_of_ble_eq_true rfl, ?_⟩))
        exact ⟨rfl, hQ _ _ _ M G, by decide, by decide⟩
      · rw [if_neg k10] at hQ
        refine br_f (nI_ne (b := 10) k10 (by omega) (by decide)) ?_
        repeat (first | (refine hP _ _ _ _ _ _ ?_; conv => whnf) | (refine ⟨fun q => absurd q (by decide), fun _ => ?_⟩) | (refine ⟨fun _ => ?_, fun q => absurd (by decide) q⟩) | (refine ac_get M.1 ?_; conv => whnf) | (refine ⟨_, M.1, Nat.le_of_ble_eq_true rfl, Nat.le_of_ble_eq_true rfl, Nat.le_of_ble_eq_true rfl, ?_⟩) | (refine ⟨Nat.le_of_ble_eq_true rfl, Nat.le_of_ble_eq_true rfl, Nat.le_of_ble_eq_true rfl, ?_⟩))
        (refine r_good1 M (fun h M F => ?_); replace G := m_frT G F)
        iterate 1 (refine hP _ _ _ _ _ _ ?_; conv => whnf)
        refine ⟨fun _ => ?_, fun q => absurd (by decide) q⟩
        iterate 4 (refine hP _ _ _ _ _ _ ?_; conv => whnf)
        have L : ∀ d i l, i < m_mk S → m_dp S i = d → ∀ x0, P 100 [some (.ref mm), some (.int (nI k)), some (.int x0), some (.int (l + m_sh S i)), some (.int (nI (m_gr S i)))] [] h 0 0 → P 66 [some (.ref mm), some (.int (nI k)), some (.int x0), some (.int l), some (.int (nI i))] [] h 0 0 := by
          intro d
          induction d with
          | zero =>
            intro i l hi hd x0 hq
            obtain ⟨w1, w2, w3, w4, w5, w6, w7, w8, w9, w10⟩ := W.2.2 i hi
            have hk : m_kd S i ≠ 11 := fun z => by have := (w10 z).2.2.2.2.1; omega
            repeat (first | (refine hP _ _ _ _ _ _ ?_; conv => whnf) | (refine ⟨fun q => absurd q (by decide), fun _ => ?_⟩) | (refine ⟨fun _ => ?_, fun q => absurd (by decide) q⟩) | (refine ac_get M.1 ?_; conv => whnf) | (refine ⟨_, M.1, Nat.le_of_ble_eq_true rfl, Nat.le_of_ble_eq_true rfl, Nat.le_of_ble_eq_true rfl, ?_⟩) | (refine ⟨Nat.le_of_ble_eq_true rfl, Nat.le_of_ble_eq_true rfl, Nat.le_of_ble_eq_true rfl, ?_⟩))
            refine md_kd M rfl (m_w5 W hi) ?_
            iterate 2 (refine hP _ _ _ _ _ _ ?_; conv => whnf)
            refine br_t (nI_ne (b := 11) hk (by omega) (by decide)) ?_
            rw [(w9 hk).1, (w9 hk).2.2, Int32.add_zero] at hq
            exact hq
          | succ d ih =>
            intro i l hi hd x0 hq
            obtain ⟨w1, w2, w3, w4, w5, w6, w7, w8, w9, w10⟩ := W.2.2 i hi
            have hk : m_kd S i = 11 := Classical.byContradiction (fun z => by have := (w9 z).2.1; omega)
            obtain ⟨b1, b2, b3, b4, b5, b6, b7⟩ := w10 hk
            repeat (first | (refine hP _ _ _ _ _ _ ?_; conv => whnf) | (refine ⟨fun q => absurd q (by decide), fun _ => ?_⟩) | (refine ⟨fun _ => ?_, fun q => absurd (by decide) q⟩) | (refine ac_get M.1 ?_; conv => whnf) | (refine ⟨_, M.1, Nat.le_of_ble_eq_true rfl, Nat.le_of_ble_eq_true rfl, Nat.le_of_ble_eq_true rfl, ?_⟩) | (refine ⟨Nat.le_of_ble_eq_true rfl, Nat.le_of_ble_eq_true rfl, Nat.le_of_ble_eq_true rfl, ?_⟩))
            refine md_kd M rfl (m_w5 W hi) ?_
            rw [hk]
            repeat (first | (refine hP _ _ _ _ _ _ ?_; conv => whnf) | (refine ⟨fun q => absurd q (by decide), fun _ => ?_⟩) | (refine ⟨fun _ => ?_, fun q => absurd (by decide) q⟩) | (refine ac_get M.1 ?_; conv => whnf) | (refine ⟨_, M.1, Nat.le_of_ble_eq_true rfl, Nat.le_of_ble_eq_true rfl, Nat.le_of_ble_eq_true rfl, ?_⟩) | (refine ⟨Nat.le_of_ble_eq_true rfl, Nat.le_of_ble_eq_true rfl, Nat.le_of_ble_eq_true rfl, ?_⟩))
            refine md_of M rfl (m_w5 W hi) ?_
            repeat (first | (refine hP _ _ _ _ _ _ ?_; conv => whnf) | (refine ⟨fun q => absurd q (by decide), fun _ => ?_⟩) | (refine ⟨fun _ => ?_, fun q => absurd (by decide) q⟩) | (refine ac_get M.1 ?_; conv => whnf) | (refine ⟨_, M.1, Nat.le_of_ble_eq_true rfl, Nat.le_of_ble_eq_true rfl, Nat.le_of_ble_eq_true rfl, ?_⟩) | (refine ⟨Nat.le_of_ble_eq_true rfl, Nat.le_of_ble_eq_true rfl, Nat.le_of_ble_eq_true rfl, ?_⟩))
            refine md_bs M rfl (m_w5 W hi) ?_
            iterate 2 (refine hP _ _ _ _ _ _ ?_; conv => whnf)
            refine ih _ _ b1 (by omega) x0 ?_
            rw [b4, b6] at hq
            rw [Int32.add_assoc, Int32.add_comm (m_of S i)]
            exact hq
        refine L _ i 0 hi rfl _ ?_
        have hg := m_w5 W (m_wg W hi)
        have hgk := (W.2.2 i hi).2.2.2.2.1
        rw [Int32.zero_add]
        repeat (first | (refine hP _ _ _ _ _ _ ?_; conv => whnf) | (refine ⟨fun q => absurd q (by decide), fun _ => ?_⟩) | (refine ⟨fun _ => ?_, fun q => absurd (by decide) q⟩) | (refine ac_get M.1 ?_; conv => whnf) | (refine ⟨_, M.1, Nat.le_of_ble_eq_true rfl, Nat.le_of_ble_eq_true rfl, Nat.le_of_ble_eq_true rfl, ?_⟩) | (refine ⟨Nat.le_of_ble_eq_true rfl, Nat.le_of_ble_eq_true rfl, Nat.le_of_ble_eq_true rfl, ?_⟩))
        refine md_kd M rfl hg ?_
        repeat (first | (refine hP _ _ _ _ _ _ ?_; conv => whnf) | (refine ⟨fun q => absurd q (by decide), fun _ => ?_⟩) | (refine ⟨fun _ => ?_, fun q => absurd (by decide) q⟩) | (refine ac_get M.1 ?_; conv => whnf) | (refine ⟨_, M.1, Nat.le_of_ble_eq_true rfl, Nat.le_of_ble_eq_true rfl, Nat.le_of_ble_eq_true rfl, ?_⟩) | (refine ⟨Nat.le_of_ble_eq_true rfl, Nat.le_of_ble_eq_true rfl, Nat.le_of_ble_eq_true rfl, ?_⟩))
        by_cases k9 : m_kd S (m_gr S i) = 9
        · rw [if_neg (fun z => z.1 k9)] at hQ
          refine br_t (by rw [k9]; rfl) ?_
          repeat (first | (refine hP _ _ _ _ _ _ ?_; conv => whnf) | (refine ⟨fun q => absurd q (by decide), fun _ => ?_⟩) | (refine ⟨fun _ => ?_, fun q => absurd (by decide) q⟩) | (refine ac_get M.1 ?_; conv => whnf) | (refine ⟨_, M.1, Nat.le_of_ble_eq_true rfl, Nat.le_of_ble_eq_true rfl, Nat.le_of_ble_eq_true rfl, ?_⟩) | (refine ⟨Nat.le_of_ble_eq_true rfl, Nat.le_of_ble_eq_true rfl, Nat.le_of_ble_eq_true rfl, ?_⟩))
          (refine r_good1 M (fun h M F => ?_); replace G := m_frT G F)
          repeat (first | (refine hP _ _ _ _ _ _ ?_; conv => whnf) | (refine ⟨fun q => absurd q (by decide), fun _ => ?_⟩) | (refine ⟨fun _ => ?_, fun q => absurd (by decide) q⟩) | (refine ac_get M.1 ?_; conv => whnf) | (refine ⟨_, M.1, Nat.le_of_ble_eq_true rfl, Nat.le_of_ble_eq_true rfl, Nat.le_of_ble_eq_true rfl, ?_⟩) | (refine ⟨Nat.le_of_ble_eq_true rfl, Nat.le_of_ble_eq_true rfl, Nat.le_of_ble_eq_true rfl, ?_⟩))
          refine md_ln M rfl hg ?_
          repeat (first | (refine hP _ _ _ _ _ _ ?_; conv => whnf) | (refine ⟨fun q => absurd q (by decide), fun _ => ?_⟩) | (refine ⟨fun _ => ?_, fun q => absurd (by decide) q⟩) | (refine ac_get M.1 ?_; conv => whnf) | (refine ⟨_, M.1, Nat.le_of_ble_eq_true rfl, Nat.le_of_ble_eq_true rfl, Nat.le_of_ble_eq_true rfl, ?_⟩) | (refine ⟨Nat.le_of_ble_eq_true rfl, Nat.le_of_ble_eq_true rfl, Nat.le_of_ble_eq_true rfl, ?_⟩))
          exact ⟨rfl, hQ _ _ _ M G, by decide, by decide⟩
        · refine br_f (nI_ne (b := 9) k9 (by omega) (by decide)) ?_
          repeat (first | (refine hP _ _ _ _ _ _ ?_; conv => whnf) | (refine ⟨fun q => absurd q (by decide), fun _ => ?_⟩) | (refine ⟨fun _ => ?_, fun q => absurd (by decide) q⟩) | (refine ac_get M.1 ?_; conv => whnf) | (refine ⟨_, M.1, Nat.le_of_ble_eq_true rfl, Nat.le_of_ble_eq_true rfl, Nat.le_of_ble_eq_true rfl, ?_⟩) | (refine ⟨Nat.le_of_ble_eq_true rfl, Nat.le_of_ble_eq_true rfl, Nat.le_of_ble_eq_true rfl, ?_⟩))
          refine md_lo M (nI_mul 6 _) (by omega) ?_
          cases e2 : m_lo S (6 * m_gr S i) with
          | true =>
            rw [if_pos ⟨k9, e2⟩] at hQ
            repeat (first | (refine hP _ _ _ _ _ _ ?_; conv => whnf) | (refine ⟨fun q => absurd q (by decide), fun _ => ?_⟩) | (refine ⟨fun _ => ?_, fun q => absurd (by decide) q⟩) | (refine ac_get M.1 ?_; conv => whnf) | (refine ⟨_, M.1, Nat.le_of_ble_eq_true rfl, Nat.le_of_ble_eq_true rfl, Nat.le_of_ble_eq_true rfl, ?_⟩) | (refine ⟨Nat.le_of_ble_eq_true rfl, Nat.le_of_ble_eq_true rfl, Nat.le_of_ble_eq_true rfl, ?_⟩))
            (refine r_good0 M (fun h M F => ?_); replace G := m_frT G F)
            repeat (first | (refine hP _ _ _ _ _ _ ?_; conv => whnf) | (refine ⟨fun q => absurd q (by decide), fun _ => ?_⟩) | (refine ⟨fun _ => ?_, fun q => absurd (by decide) q⟩) | (refine ac_get M.1 ?_; conv => whnf) | (refine ⟨_, M.1, Nat.le_of_ble_eq_true rfl, Nat.le_of_ble_eq_true rfl, Nat.le_of_ble_eq_true rfl, ?_⟩) | (refine ⟨Nat.le_of_ble_eq_true rfl, Nat.le_of_ble_eq_true rfl, Nat.le_of_ble_eq_true rfl, ?_⟩))
            exact ⟨rfl, hQ _ _ _ M G, by decide, by decide⟩
          | false =>
            rw [if_neg (fun z => by rw [e2] at z; cases z.2)] at hQ
            repeat (first | (refine hP _ _ _ _ _ _ ?_; conv => whnf) | (refine ⟨fun q => absurd q (by decide), fun _ => ?_⟩) | (refine ⟨fun _ => ?_, fun q => absurd (by decide) q⟩) | (refine ac_get M.1 ?_; conv => whnf) | (refine ⟨_, M.1, Nat.le_of_ble_eq_true rfl, Nat.le_of_ble_eq_true rfl, Nat.le_of_ble_eq_true rfl, ?_⟩) | (refine ⟨Nat.le_of_ble_eq_true rfl, Nat.le_of_ble_eq_true rfl, Nat.le_of_ble_eq_true rfl, ?_⟩))
            (refine r_good1 M (fun h M F => ?_); replace G := m_frT G F)
            repeat (first | (refine hP _ _ _ _ _ _ ?_; conv => whnf) | (refine ⟨fun q => absurd q (by decide), fun _ => ?_⟩) | (refine ⟨fun _ => ?_, fun q => absurd (by decide) q⟩) | (refine ac_get M.1 ?_; conv => whnf) | (refine ⟨_, M.1, Nat.le_of_ble_eq_true rfl, Nat.le_of_ble_eq_true rfl, Nat.le_of_ble_eq_true rfl, ?_⟩) | (refine ⟨Nat.le_of_ble_eq_true rfl, Nat.le_of_ble_eq_true rfl, Nat.le_of_ble_eq_true rfl, ?_⟩))
            refine md_ln M rfl hg ?_
            repeat (first | (refine hP _ _ _ _ _ _ ?_; conv => whnf) | (refine ⟨fun q => absurd q (by decide), fun _ => ?_⟩) | (refine ⟨fun _ => ?_, fun q => absurd (by decide) q⟩) | (refine ac_get M.1 ?_; conv => whnf) | (refine ⟨_, M.1, Nat.le_of_ble_eq_true rfl, Nat.le_of_ble_eq_true rfl, Nat.le_of_ble_eq_true rfl, ?_⟩) | (refine ⟨Nat.le_of_ble_eq_true rfl, Nat.le_of_ble_eq_true rfl, Nat.le_of_ble_eq_true rfl, ?_⟩))
            exact ⟨rfl, hQ _ _ _ M G, by decide, by decide⟩
theorem R_take (M : m_md h mm ar S ve el co) (W : m_wf S) {r ix : Int32} (hQ : m_app (fun x a S' => ∀ h' ve el, m_md h' mm ar S' ve el (m_ct 0 x) → m_fr mm ar h h' → Q (.inl (some (.long a))) h') (f_take S r ix)) : T_X6_take [.ref mm, .int r, .int ix] h Q := by
  have G : m_fr mm ar h h := m_fr0
  unfold f_take at hQ
  (intro P hP; conv => whnf)
  repeat (first | (refine hP _ _ _ _ _ _ ?_; conv => whnf) | (refine ⟨fun q => absurd q (by decide), fun _ => ?_⟩) | (refine ⟨fun _ => ?_, fun q => absurd (by decide) q⟩) | (refine ac_get M.1 ?_; conv => whnf) | (refine ⟨_, M.1, Nat.le_of_ble_eq_true rfl, Nat.le_of_ble_eq_true rfl, Nat.le_of_ble_eq_true rfl, ?_⟩) | (refine ⟨Nat.le_of_ble_eq_true rfl, Nat.le_of_ble_eq_true rfl, Nat.le_of_ble_eq_true rfl, ?_⟩))
  refine r_known M (fun q h M F => ?_) (fun q h M F => ?_)
  · replace G := m_frT G F
    rw [if_pos (q.elim id (fun z => absurd z (by decide)))] at hQ
    repeat (first | (refine hP _ _ _ _ _ _ ?_; conv => whnf) | (refine ⟨fun q => absurd q (by decide), fun _ => ?_⟩) | (refine ⟨fun _ => ?_, fun q => absurd (by decide) q⟩) | (refine ac_get M.1 ?_; conv => whnf) | (refine ⟨_, M.1, Nat.le_of_ble_eq_true rfl, Nat.le_of_ble_eq_true rfl, Nat.le_of_ble_eq_true rfl, ?_⟩) | (refine ⟨Nat.le_of_ble_eq_true rfl, Nat.le_of_ble_eq_true rfl, Nat.le_of_ble_eq_true rfl, ?_⟩))
    exact ⟨rfl, hQ _ _ _ M G, by decide, by decide⟩
  · replace G := m_frT G F
    rw [if_neg (fun z => q (Or.inl z))] at hQ
    obtain ⟨k, hk, rfl⟩ := m_badN (by decide) (fun z => q (Or.inl z))
    rw [nI_clamp (by omega)] at hQ
    repeat (first | (refine hP _ _ _ _ _ _ ?_; conv => whnf) | (refine ⟨fun q => absurd q (by decide), fun _ => ?_⟩) | (refine ⟨fun _ => ?_, fun q => absurd (by decide) q⟩) | (refine ac_get M.1 ?_; conv => whnf) | (refine ⟨_, M.1, Nat.le_of_ble_eq_true rfl, Nat.le_of_ble_eq_true rfl, Nat.le_of_ble_eq_true rfl, ?_⟩) | (refine ⟨Nat.le_of_ble_eq_true rfl, Nat.le_of_ble_eq_true rfl, Nat.le_of_ble_eq_true rfl, ?_⟩))
    refine r_reach M W hk (b := 7) (by decide) (fun e h ve el M F => ?_) (fun i e q1 h ve el M F => ?_) (fun i e q1 q2 h ve el M F => ?_) (fun i e q1 q2 h M F => ?_)
    · replace G := m_frT G F
      rw [e] at hQ
      repeat (first | (refine hP _ _ _ _ _ _ ?_; conv => whnf) | (refine ⟨fun q => absurd q (by decide), fun _ => ?_⟩) | (refine ⟨fun _ => ?_, fun q => absurd (by decide) q⟩) | (refine ac_get M.1 ?_; conv => whnf) | (refine ⟨_, M.1, Nat.le_of_ble_eq_true rfl, Nat.le_of_ble_eq_true rfl, Nat.le_of_ble_eq_true rfl, ?_⟩) | (refine ⟨Nat.le_of_ble_eq_true rfl, Nat.le_of_ble_eq_true rfl, Nat.le_of_ble_eq_true rfl, ?_⟩))
      exact ⟨rfl, hQ _ _ _ M G, by decide, by decide⟩
    · replace G := m_frT G F
      rw [e] at hQ
      replace hQ : m_app _ (i_take S ix i) := hQ
      unfold i_take at hQ
      rw [if_pos q1] at hQ
      repeat (first | (refine hP _ _ _ _ _ _ ?_; conv => whnf) | (refine ⟨fun q => absurd q (by decide), fun _ => ?_⟩) | (refine ⟨fun _ => ?_, fun q => absurd (by decide) q⟩) | (refine ac_get M.1 ?_; conv => whnf) | (refine ⟨_, M.1, Nat.le_of_ble_eq_true rfl, Nat.le_of_ble_eq_true rfl, Nat.le_of_ble_eq_true rfl, ?_⟩) | (refine ⟨Nat.le_of_ble_eq_true rfl, Nat.le_of_ble_eq_true rfl, Nat.le_of_ble_eq_true rfl, ?_⟩))
      exact ⟨rfl, hQ _ _ _ M G, by decide, by decide⟩
    · replace G := m_frT G F
      rw [e] at hQ
      replace hQ : m_app _ (i_take S ix i) := hQ
      unfold i_take at hQ
      rw [if_neg q1, if_neg q2] at hQ
      repeat (first | (refine hP _ _ _ _ _ _ ?_; conv => whnf) | (refine ⟨fun q => absurd q (by decide), fun _ => ?_⟩) | (refine ⟨fun _ => ?_, fun q => absurd (by decide) q⟩) | (refine ac_get M.1 ?_; conv => whnf) | (refine ⟨_, M.1, Nat.le_of_ble_eq_true rfl, Nat.le_of_ble_eq_true rfl, Nat.le_of_ble_eq_true rfl, ?_⟩) | (refine ⟨Nat.le_of_ble_eq_true rfl, Nat.le_of_ble_eq_true rfl, Nat.le_of_ble_eq_true rfl, ?_⟩))
      exact ⟨rfl, hQ _ _ _ M G, by decide, by decide⟩
    · replace G := m_frT G F
      rw [e] at hQ
      replace hQ : m_app _ (i_take S ix i) := hQ
      unfold i_take at hQ
      rw [if_neg q1, if_pos q2] at hQ
      have hi := W.2.1 k i hk e
      have hg := m_wg W hi
      obtain ⟨p1, p2, p3⟩ := m_pl7 W hi q2
      have h24 := (W.2.2 _ hg).2.1
      rw [p3] at M
      repeat (first | (refine hP _ _ _ _ _ _ ?_; conv => whnf) | (refine ⟨fun q => absurd q (by decide), fun _ => ?_⟩) | (refine ⟨fun _ => ?_, fun q => absurd (by decide) q⟩) | (refine ac_get M.1 ?_; conv => whnf) | (refine ⟨_, M.1, Nat.le_of_ble_eq_true rfl, Nat.le_of_ble_eq_true rfl, Nat.le_of_ble_eq_true rfl, ?_⟩) | (refine ⟨Nat.le_of_ble_eq_true rfl, Nat.le_of_ble_eq_true rfl, Nat.le_of_ble_eq_true rfl, ?_⟩))
      refine r_here M (m_w5 W hg) (by omega) ?_
      repeat (first | (refine hP _ _ _ _ _ _ ?_; conv => whnf) | (refine ⟨fun q => absurd q (by decide), fun _ => ?_⟩) | (refine ⟨fun _ => ?_, fun q => absurd (by decide) q⟩) | (refine ac_get M.1 ?_; conv => whnf) | (refine ⟨_, M.1, Nat.le_of_ble_eq_true rfl, Nat.le_of_ble_eq_true rfl, Nat.le_of_ble_eq_true rfl, ?_⟩) | (refine ⟨Nat.le_of_ble_eq_true rfl, Nat.le_of_ble_eq_true rfl, Nat.le_of_ble_eq_true rfl, ?_⟩))
      exact ⟨rfl, hQ _ _ _ M G, by decide, by decide⟩
theorem R_put (M : m_md h mm ar S ve el co) (W : m_wf S) {r ix : Int32} {v : Int64} (hQ : m_app (fun x a S' => ∀ h' ve el, m_md h' mm ar S' ve el (m_ct 0 x) → m_fr mm ar h h' → Q (.inl (some (.long a))) h') (f_put S r ix v)) : T_X6_put [.ref mm, .int r, .int ix, .long v] h Q := by
  have G : m_fr mm ar h h := m_fr0
  unfold f_put at hQ
  (intro P hP; conv => whnf)
  repeat (first | (refine hP _ _ _ _ _ _ ?_; conv => whnf) | (refine ⟨fun q => absurd q (by decide), fun _ => ?_⟩) | (refine ⟨fun _ => ?_, fun q => absurd (by decide) q⟩) | (refine ac_get M.1 ?_; conv => whnf) | (refine ⟨_, M.1, Nat.le_of_ble_eq_true rfl, Nat.le_of_ble_eq_true rfl, Nat.le_of_ble_eq_true rfl, ?_⟩) | (refine ⟨Nat.le_of_ble_eq_true rfl, Nat.le_of_ble_eq_true rfl, Nat.le_of_ble_eq_true rfl, ?_⟩))
  refine r_known M (fun q h M F => ?_) (fun q h M F => ?_)
  · replace G := m_frT G F
    rw [if_pos (q.elim id (fun z => absurd z (by decide)))] at hQ
    repeat (first | (refine hP _ _ _ _ _ _ ?_; conv => whnf) | (refine ⟨fun q => absurd q (by decide), fun _ => ?_⟩) | (refine ⟨fun _ => ?_, fun q => absurd (by decide) q⟩) | (refine ac_get M.1 ?_; conv => whnf) | (refine ⟨_, M.1, Nat.le_of_ble_eq_true rfl, Nat.le_of_ble_eq_true rfl, Nat.le_of_ble_eq_true rfl, ?_⟩) | (refine ⟨Nat.le_of_ble_eq_true rfl, Nat.le_of_ble_eq_true rfl, Nat.le_of_ble_eq_true rfl, ?_⟩))
    exact ⟨rfl, hQ _ _ _ M G, by decide, by decide⟩
  · replace G := m_frT G F
    rw [if_neg (fun z => q (Or.inl z))] at hQ
    obtain ⟨k, hk, rfl⟩ := m_badN (by decide) (fun z => q (Or.inl z))
    rw [nI_clamp (by omega)] at hQ
    repeat (first | (refine hP _ _ _ _ _ _ ?_; conv => whnf) | (refine ⟨fun q => absurd q (by decide), fun _ => ?_⟩) | (refine ⟨fun _ => ?_, fun q => absurd (by decide) q⟩) | (refine ac_get M.1 ?_; conv => whnf) | (refine ⟨_, M.1, Nat.le_of_ble_eq_true rfl, Nat.le_of_ble_eq_true rfl, Nat.le_of_ble_eq_true rfl, ?_⟩) | (refine ⟨Nat.le_of_ble_eq_true rfl, Nat.le_of_ble_eq_true rfl, Nat.le_of_ble_eq_true rfl, ?_⟩))
    refine r_reach M W hk (b := 7) (by decide) (fun e h ve el M F => ?_) (fun i e q1 h ve el M F => ?_) (fun i e q1 q2 h ve el M F => ?_) (fun i e q1 q2 h M F => ?_)
    · replace G := m_frT G F
      rw [e] at hQ
      repeat (first | (refine hP _ _ _ _ _ _ ?_; conv => whnf) | (refine ⟨fun q => absurd q (by decide), fun _ => ?_⟩) | (refine ⟨fun _ => ?_, fun q => absurd (by decide) q⟩) | (refine ac_get M.1 ?_; conv => whnf) | (refine ⟨_, M.1, Nat.le_of_ble_eq_true rfl, Nat.le_of_ble_eq_true rfl, Nat.le_of_ble_eq_true rfl, ?_⟩) | (refine ⟨Nat.le_of_ble_eq_true rfl, Nat.le_of_ble_eq_true rfl, Nat.le_of_ble_eq_true rfl, ?_⟩))
      exact ⟨rfl, hQ _ _ _ M G, by decide, by decide⟩
    · replace G := m_frT G F
      rw [e] at hQ
      replace hQ : m_app _ (i_put S ix v i) := hQ
      unfold i_put at hQ
      rw [if_pos q1] at hQ
      repeat (first | (refine hP _ _ _ _ _ _ ?_; conv => whnf) | (refine ⟨fun q => absurd q (by decide), fun _ => ?_⟩) | (refine ⟨fun _ => ?_, fun q => absurd (by decide) q⟩) | (refine ac_get M.1 ?_; conv => whnf) | (refine ⟨_, M.1, Nat.le_of_ble_eq_true rfl, Nat.le_of_ble_eq_true rfl, Nat.le_of_ble_eq_true rfl, ?_⟩) | (refine ⟨Nat.le_of_ble_eq_true rfl, Nat.le_of_ble_eq_true rfl, Nat.le_of_ble_eq_true rfl, ?_⟩))
      exact ⟨rfl, hQ _ _ _ M G, by decide, by decide⟩
    · replace G := m_frT G F
      rw [e] at hQ
      replace hQ : m_app _ (i_put S ix v i) := hQ
      unfold i_put at hQ
      rw [if_neg q1, if_neg q2] at hQ
      repeat (first | (refine hP _ _ _ _ _ _ ?_; conv => whnf) | (refine ⟨fun q => absurd q (by decide), fun _ => ?_⟩) | (refine ⟨fun _ => ?_, fun q => absurd (by decide) q⟩) | (refine ac_get M.1 ?_; conv => whnf) | (refine ⟨_, M.1, Nat.le_of_ble_eq_true rfl, Nat.le_of_ble_eq_true rfl, Nat.le_of_ble_eq_true rfl, ?_⟩) | (refine ⟨Nat.le_of_ble_eq_true rfl, Nat.le_of_ble_eq_true rfl, Nat.le_of_ble_eq_true rfl, ?_⟩))
      exact ⟨rfl, hQ _ _ _ M G, by decide, by decide⟩
    · replace G := m_frT G F
      rw [e] at hQ
      replace hQ : m_app _ (i_put S ix v i) := hQ
      unfold i_put at hQ
      rw [if_neg q1, if_pos q2] at hQ
      have hi := W.2.1 k i hk e
      have hg := m_wg W hi
      obtain ⟨p1, p2, p3⟩ := m_pl7 W hi q2
      have h24 := (W.2.2 _ hg).2.1
      rw [p3] at M
      repeat (first | (refine hP _ _ _ _ _ _ ?_; conv => whnf) | (refine ⟨fun q => absurd q (by decide), fun _ => ?_⟩) | (refine ⟨fun _ => ?_, fun q => absurd (by decide) q⟩) | (refine ac_get M.1 ?_; conv => whnf) | (refine ⟨_, M.1, Nat.le_of_ble_eq_true rfl, Nat.le_of_ble_eq_true rfl, Nat.le_of_ble_eq_true rfl, ?_⟩) | (refine ⟨Nat.le_of_ble_eq_true rfl, Nat.le_of_ble_eq_true rfl, Nat.le_of_ble_eq_true rfl, ?_⟩))
      refine r_set M (m_w5 W hg) (by omega) (by omega) (fun h M F => ?_)
      replace G := m_frT G F
      repeat (first | (refine hP _ _ _ _ _ _ ?_; conv => whnf) | (refine ⟨fun q => absurd q (by decide), fun _ => ?_⟩) | (refine ⟨fun _ => ?_, fun q => absurd (by decide) q⟩) | (refine ac_get M.1 ?_; conv => whnf) | (refine ⟨_, M.1, Nat.le_of_ble_eq_true rfl, Nat.le_of_ble_eq_true rfl, Nat.le_of_ble_eq_true rfl, ?_⟩) | (refine ⟨Nat.le_of_ble_eq_true rfl, Nat.le_of_ble_eq_true rfl, Nat.le_of_ble_eq_true rfl, ?_⟩))
      exact ⟨rfl, hQ _ _ _ M G, by decide, by decide⟩
end REFD
