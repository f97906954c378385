/-! ===== the class: cells, references, records ===== -/
section CLG
variable {h : ac_H} {Z : Nat → Prop} {x : Nat} {ad : Nat → Nat} {ow : Nat → Option Nat} {hd : Nat} {hf : Nat → Option Nat} {S : m_S} {Q : ac_Q}
theorem c_cl9 {k : Nat} (c : c_cl k = 4) : k = 9 := by
  unfold c_cl at c
  split at c
  · cases c
  · split at c
    · assumption
    · split at c <;> cases c
theorem c_cl10 {k : Nat} (c : c_cl k = 5) : k = 10 := by
  unfold c_cl at c
  split at c
  · cases c
  · split at c
    · cases c
    · split at c
      · assumption
      · cases c
theorem c_gridIn (C : c_ch h Z x ad ow hd hf S) (W : m_wf S) {k : Nat} (hk : k < 8) (h1 : m_rg S k = none → Q (.inr 1) h) (h2 : ∀ i, m_rg S k = some i → ¬ m_kd S i = 9 → Q (.inr 2) h) (h3 : ∀ i, m_rg S k = some i → m_kd S i = 9 → Q (.inl (some (.ref (ad i)))) h) : T_X5_gridIn [.ref x, .int (nI k)] h Q := by
  (intro P hP; conv => whnf)
  repeat (first | (refine hP _ _ _ _ _ _ ?_; conv => whnf) | (refine ⟨fun q => absurd q (by decide), fun _ => ?_⟩) | (refine ⟨fun _ => ?_, fun q => absurd (by decide) q⟩) | (refine ac_get C.1 ?_; conv => whnf) | (refine ⟨_, C.1, Nat.le_of_ble_eq_true rfl, Nat.le_of_ble_eq_true rfl, Nat.le_of_ble_eq_true rfl, ?_⟩) | (refine ⟨Nat.le_of_ble_eq_true rfl, Nat.le_of_ble_eq_true rfl, Nat.le_of_ble_eq_true rfl, ?_⟩))
  refine c_hd C hk rfl (fun e => ?_) (fun i e => ?_)
  · repeat (first | (refine hP _ _ _ _ _ _ ?_; conv => whnf) | (refine ⟨fun q => absurd q (by decide), fun _ => ?_⟩) | (refine ⟨fun _ => ?_, fun q => absurd (by decide) q⟩) | (refine ac_get C.1 ?_; conv => whnf) | (refine ⟨_, C.1, Nat.le_of_ble_eq_true rfl, Nat.le_of_ble_eq_true rfl, Nat.le_of_ble_eq_true rfl, ?_⟩) | (refine ⟨Nat.le_of_ble_eq_true rfl, Nat.le_of_ble_eq_true rfl, Nat.le_of_ble_eq_true rfl, ?_⟩))
    refine sp_requireSupported (fun _ => ?_) (fun z => absurd z (by decide))
    repeat (first | (refine hP _ _ _ _ _ _ ?_; conv => whnf) | (refine ⟨fun q => absurd q (by decide), fun _ => ?_⟩) | (refine ⟨fun _ => ?_, fun q => absurd (by decide) q⟩) | (refine ac_get C.1 ?_; conv => whnf) | (refine ⟨_, C.1, Nat.le_of_ble_eq_true rfl, Nat.le_of_ble_eq_true rfl, Nat.le_of_ble_eq_true rfl, ?_⟩) | (refine ⟨Nat.le_of_ble_eq_true rfl, Nat.le_of_ble_eq_true rfl, Nat.le_of_ble_eq_true rfl, ?_⟩))
    refine sp_requirePresent (fun z => absurd rfl z) (fun _ => ?_)
    refine ac_koX (by decide) ?_
    exact h1 e
  · have hi := W.2.1 k i hk e
    repeat (first | (refine hP _ _ _ _ _ _ ?_; conv => whnf) | (refine ⟨fun q => absurd q (by decide), fun _ => ?_⟩) | (refine ⟨fun _ => ?_, fun q => absurd (by decide) q⟩) | (refine ac_get C.1 ?_; conv => whnf) | (refine ⟨_, C.1, Nat.le_of_ble_eq_true rfl, Nat.le_of_ble_eq_true rfl, Nat.le_of_ble_eq_true rfl, ?_⟩) | (refine ⟨Nat.le_of_ble_eq_true rfl, Nat.le_of_ble_eq_true rfl, Nat.le_of_ble_eq_true rfl, ?_⟩))
    refine c_inst C W hi (fun c => ?_) (fun c => ?_)
    · have k9 := c_cl9 c
      obtain ⟨s, f, e1, -⟩ := (C.2.2.2.1 i hi).2.2.2.2.1 k9
      repeat (first | (refine hP _ _ _ _ _ _ ?_; conv => whnf) | (refine ⟨fun q => absurd q (by decide), fun _ => ?_⟩) | (refine ⟨fun _ => ?_, fun q => absurd (by decide) q⟩) | (refine ac_get C.1 ?_; conv => whnf) | (refine ⟨_, C.1, Nat.le_of_ble_eq_true rfl, Nat.le_of_ble_eq_true rfl, Nat.le_of_ble_eq_true rfl, ?_⟩) | (refine ⟨Nat.le_of_ble_eq_true rfl, Nat.le_of_ble_eq_true rfl, Nat.le_of_ble_eq_true rfl, ?_⟩))
      refine ⟨_, e1, ?_⟩
      repeat (first | (refine hP _ _ _ _ _ _ ?_; conv => whnf) | (refine ⟨fun q => absurd q (by decide), fun _ => ?_⟩) | (refine ⟨fun _ => ?_, fun q => absurd (by decide) q⟩) | (refine ac_get C.1 ?_; conv => whnf) | (refine ⟨_, C.1, Nat.le_of_ble_eq_true rfl, Nat.le_of_ble_eq_true rfl, Nat.le_of_ble_eq_true rfl, ?_⟩) | (refine ⟨Nat.le_of_ble_eq_true rfl, Nat.le_of_ble_eq_true rfl, Nat.le_of_ble_eq_true rfl, ?_⟩))
      refine sp_requireSupported (fun _ => ?_) (fun z => absurd z (by decide))
      repeat (first | (refine hP _ _ _ _ _ _ ?_; conv => whnf) | (refine ⟨fun q => absurd q (by decide), fun _ => ?_⟩) | (refine ⟨fun _ => ?_, fun q => absurd (by decide) q⟩) | (refine ac_get C.1 ?_; conv => whnf) | (refine ⟨_, C.1, Nat.le_of_ble_eq_true rfl, Nat.le_of_ble_eq_true rfl, Nat.le_of_ble_eq_true rfl, ?_⟩) | (refine ⟨Nat.le_of_ble_eq_true rfl, Nat.le_of_ble_eq_true rfl, Nat.le_of_ble_eq_true rfl, ?_⟩))
      refine sp_requirePresent (fun _ => ?_) (fun z => absurd z (by decide))
      repeat (first | (refine hP _ _ _ _ _ _ ?_; conv => whnf) | (refine ⟨fun q => absurd q (by decide), fun _ => ?_⟩) | (refine ⟨fun _ => ?_, fun q => absurd (by decide) q⟩) | (refine ac_get C.1 ?_; conv => whnf) | (refine ⟨_, C.1, Nat.le_of_ble_eq_true rfl, Nat.le_of_ble_eq_true rfl, Nat.le_of_ble_eq_true rfl, ?_⟩) | (refine ⟨Nat.le_of_ble_eq_true rfl, Nat.le_of_ble_eq_true rfl, Nat.le_of_ble_eq_true rfl, ?_⟩))
      exact ⟨rfl, h3 i e k9, by decide, by decide⟩
    · repeat (first | (refine hP _ _ _ _ _ _ ?_; conv => whnf) | (refine ⟨fun q => absurd q (by decide), fun _ => ?_⟩) | (refine ⟨fun _ => ?_, fun q => absurd (by decide) q⟩) | (refine ac_get C.1 ?_; conv => whnf) | (refine ⟨_, C.1, Nat.le_of_ble_eq_true rfl, Nat.le_of_ble_eq_true rfl, Nat.le_of_ble_eq_true rfl, ?_⟩) | (refine ⟨Nat.le_of_ble_eq_true rfl, Nat.le_of_ble_eq_true rfl, Nat.le_of_ble_eq_true rfl, ?_⟩))
      refine sp_requireSupported (fun z => absurd rfl z) (fun _ => ?_)
      refine ac_koX (by decide) ?_
      exact h2 i e (fun z => c (by rw [z]; rfl))
theorem c_recN (C : c_ch h Z x ad ow hd hf S) (W : m_wf S) {k : Nat} (hk : k < 8) (h1 : m_rg S k = none → Q (.inl (some .null)) h) (h2 : ∀ i, m_rg S k = some i → ¬ m_kd S i = 10 → Q (.inr 2) h) (h3 : ∀ i, m_rg S k = some i → m_kd S i = 10 → Q (.inl (some (.ref (ad i)))) h) : T_X5_recordOrNone [.ref x, .int (nI k)] h Q := by
  (intro P hP; conv => whnf)
  repeat (first | (refine hP _ _ _ _ _ _ ?_; conv => whnf) | (refine ⟨fun q => absurd q (by decide), fun _ => ?_⟩) | (refine ⟨fun _ => ?_, fun q => absurd (by decide) q⟩) | (refine ac_get C.1 ?_; conv => whnf) | (refine ⟨_, C.1, Nat.le_of_ble_eq_true rfl, Nat.le_of_ble_eq_true rfl, Nat.le_of_ble_eq_true rfl, ?_⟩) | (refine ⟨Nat.le_of_ble_eq_true rfl, Nat.le_of_ble_eq_true rfl, Nat.le_of_ble_eq_true rfl, ?_⟩))
  refine c_hd C hk rfl (fun e => ?_) (fun i e => ?_)
  · repeat (first | (refine hP _ _ _ _ _ _ ?_; conv => whnf) | (refine ⟨fun q => absurd q (by decide), fun _ => ?_⟩) | (refine ⟨fun _ => ?_, fun q => absurd (by decide) q⟩) | (refine ac_get C.1 ?_; conv => whnf) | (refine ⟨_, C.1, Nat.le_of_ble_eq_true rfl, Nat.le_of_ble_eq_true rfl, Nat.le_of_ble_eq_true rfl, ?_⟩) | (refine ⟨Nat.le_of_ble_eq_true rfl, Nat.le_of_ble_eq_true rfl, Nat.le_of_ble_eq_true rfl, ?_⟩))
    refine sp_requireSupported (fun _ => ?_) (fun z => absurd z (by decide))
    repeat (first | (refine hP _ _ _ _ _ _ ?_; conv => whnf) | (refine ⟨fun q => absurd q (by decide), fun _ => ?_⟩) | (refine ⟨fun _ => ?_, fun q => absurd (by decide) q⟩) | (refine ac_get C.1 ?_; conv => whnf) | (refine ⟨_, C.1, Nat.le_of_ble_eq_true rfl, Nat.le_of_ble_eq_true rfl, Nat.le_of_ble_eq_true rfl, ?_⟩) | (refine ⟨Nat.le_of_ble_eq_true rfl, Nat.le_of_ble_eq_true rfl, Nat.le_of_ble_eq_true rfl, ?_⟩))
    exact ⟨rfl, h1 e, by decide, by decide⟩
  · have hi := W.2.1 k i hk e
    repeat (first | (refine hP _ _ _ _ _ _ ?_; conv => whnf) | (refine ⟨fun q => absurd q (by decide), fun _ => ?_⟩) | (refine ⟨fun _ => ?_, fun q => absurd (by decide) q⟩) | (refine ac_get C.1 ?_; conv => whnf) | (refine ⟨_, C.1, Nat.le_of_ble_eq_true rfl, Nat.le_of_ble_eq_true rfl, Nat.le_of_ble_eq_true rfl, ?_⟩) | (refine ⟨Nat.le_of_ble_eq_true rfl, Nat.le_of_ble_eq_true rfl, Nat.le_of_ble_eq_true rfl, ?_⟩))
    refine c_inst C W hi (fun c => ?_) (fun c => ?_)
    · have k10 := c_cl10 c
      have e1 := (C.2.2.2.1 i hi).2.2.2.2.2.1 k10
      repeat (first | (refine hP _ _ _ _ _ _ ?_; conv => whnf) | (refine ⟨fun q => absurd q (by decide), fun _ => ?_⟩) | (refine ⟨fun _ => ?_, fun q => absurd (by decide) q⟩) | (refine ac_get C.1 ?_; conv => whnf) | (refine ⟨_, C.1, Nat.le_of_ble_eq_true rfl, Nat.le_of_ble_eq_true rfl, Nat.le_of_ble_eq_true rfl, ?_⟩) | (refine ⟨Nat.le_of_ble_eq_true rfl, Nat.le_of_ble_eq_true rfl, Nat.le_of_ble_eq_true rfl, ?_⟩))
      refine ⟨_, e1, ?_⟩
      repeat (first | (refine hP _ _ _ _ _ _ ?_; conv => whnf) | (refine ⟨fun q => absurd q (by decide), fun _ => ?_⟩) | (refine ⟨fun _ => ?_, fun q => absurd (by decide) q⟩) | (refine ac_get C.1 ?_; conv => whnf) | (refine ⟨_, C.1, Nat.le_of_ble_eq_true rfl, Nat.le_of_ble_eq_true rfl, Nat.le_of_ble_eq_true rfl, ?_⟩) | (refine ⟨Nat.le_of_ble_eq_true rfl, Nat.le_of_ble_eq_true rfl, Nat.le_of_ble_eq_true rfl, ?_⟩))
      refine sp_requireSupported (fun _ => ?_) (fun z => absurd z (by decide))
      repeat (first | (refine hP _ _ _ _ _ _ ?_; conv => whnf) | (refine ⟨fun q => absurd q (by decide), fun _ => ?_⟩) | (refine ⟨fun _ => ?_, fun q => absurd (by decide) q⟩) | (refine ac_get C.1 ?_; conv => whnf) | (refine ⟨_, C.1, Nat.le_of_ble_eq_true rfl, Nat.le_of_ble_eq_true rfl, Nat.le_of_ble_eq_true rfl, ?_⟩) | (refine ⟨Nat.le_of_ble_eq_true rfl, Nat.le_of_ble_eq_true rfl, Nat.le_of_ble_eq_true rfl, ?_⟩))
      exact ⟨rfl, h3 i e k10, by decide, by decide⟩
    · repeat (first | (refine hP _ _ _ _ _ _ ?_; conv => whnf) | (refine ⟨fun q => absurd q (by decide), fun _ => ?_⟩) | (refine ⟨fun _ => ?_, fun q => absurd (by decide) q⟩) | (refine ac_get C.1 ?_; conv => whnf) | (refine ⟨_, C.1, Nat.le_of_ble_eq_true rfl, Nat.le_of_ble_eq_true rfl, Nat.le_of_ble_eq_true rfl, ?_⟩) | (refine ⟨Nat.le_of_ble_eq_true rfl, Nat.le_of_ble_eq_true rfl, Nat.le_of_ble_eq_true rfl, ?_⟩))
      refine sp_requireSupported (fun z => absurd rfl z) (fun _ => ?_)
      refine ac_koX (by decide) ?_
      exact h2 i e (fun z => c (by rw [z]; rfl))
theorem c_recIn (C : c_ch h Z x ad ow hd hf S) (W : m_wf S) {k : Nat} (hk : k < 8) (h1 : m_rg S k = none → Q (.inr 1) h) (h2 : ∀ i, m_rg S k = some i → ¬ m_kd S i = 10 → Q (.inr 2) h) (h3 : ∀ i, m_rg S k = some i → m_kd S i = 10 → Q (.inl (some (.ref (ad i)))) h) : T_X5_recordIn [.ref x, .int (nI k)] h Q := by
  (intro P hP; conv => whnf)
  repeat (first | (refine hP _ _ _ _ _ _ ?_; conv => whnf) | (refine ⟨fun q => absurd q (by decide), fun _ => ?_⟩) | (refine ⟨fun _ => ?_, fun q => absurd (by decide) q⟩) | (refine ac_get C.1 ?_; conv => whnf) | (refine ⟨_, C.1, Nat.le_of_ble_eq_true rfl, Nat.le_of_ble_eq_true rfl, Nat.le_of_ble_eq_true rfl, ?_⟩) | (refine ⟨Nat.le_of_ble_eq_true rfl, Nat.le_of_ble_eq_true rfl, Nat.le_of_ble_eq_true rfl, ?_⟩))
  refine c_recN C W hk (fun e => ?_) (fun i e q => ?_) (fun i e q => ?_)
  · repeat (first | (refine hP _ _ _ _ _ _ ?_; conv => whnf) | (refine ⟨fun q => absurd q (by decide), fun _ => ?_⟩) | (refine ⟨fun _ => ?_, fun q => absurd (by decide) q⟩) | (refine ac_get C.1 ?_; conv => whnf) | (refine ⟨_, C.1, Nat.le_of_ble_eq_true rfl, Nat.le_of_ble_eq_true rfl, Nat.le_of_ble_eq_true rfl, ?_⟩) | (refine ⟨Nat.le_of_ble_eq_true rfl, Nat.le_of_ble_eq_true rfl, Nat.le_of_ble_eq_true rfl, ?_⟩))
    refine sp_requirePresent (fun z => absurd rfl z) (fun _ => ?_)
    refine ac_koX (by decide) ?_
    exact h1 e
  · refine ac_koX (by decide) ?_
    exact h2 i e q
  · repeat (first | (refine hP _ _ _ _ _ _ ?_; conv => whnf) | (refine ⟨fun q => absurd q (by decide), fun _ => ?_⟩) | (refine ⟨fun _ => ?_, fun q => absurd (by decide) q⟩) | (refine ac_get C.1 ?_; conv => whnf) | (refine ⟨_, C.1, Nat.le_of_ble_eq_true rfl, Nat.le_of_ble_eq_true rfl, Nat.le_of_ble_eq_true rfl, ?_⟩) | (refine ⟨Nat.le_of_ble_eq_true rfl, Nat.le_of_ble_eq_true rfl, Nat.le_of_ble_eq_true rfl, ?_⟩))
    refine sp_requirePresent (fun _ => ?_) (fun z => absurd z (by decide))
    repeat (first | (refine hP _ _ _ _ _ _ ?_; conv => whnf) | (refine ⟨fun q => absurd q (by decide), fun _ => ?_⟩) | (refine ⟨fun _ => ?_, fun q => absurd (by decide) q⟩) | (refine ac_get C.1 ?_; conv => whnf) | (refine ⟨_, C.1, Nat.le_of_ble_eq_true rfl, Nat.le_of_ble_eq_true rfl, Nat.le_of_ble_eq_true rfl, ?_⟩) | (refine ⟨Nat.le_of_ble_eq_true rfl, Nat.le_of_ble_eq_true rfl, Nat.le_of_ble_eq_true rfl, ?_⟩))
    exact ⟨rfl, h3 i e q, by decide, by decide⟩
theorem c_rcN {c : Int32} (h1 : Q (.inr 1) h) : T_X5_requireCell [.null, .int c] h Q := by
  (intro P hP; conv => whnf)
  repeat (first | (refine hP _ _ _ _ _ _ ?_; conv => whnf) | (refine ⟨fun q => absurd q (by decide), fun _ => ?_⟩) | (refine ⟨fun _ => ?_, fun q => absurd (by decide) q⟩) | (refine ⟨_, by assumption, ?_⟩; conv => whnf))
  refine ⟨Nat.le_of_ble_eq_true rfl, Nat.le_of_ble_eq_true rfl, Nat.le_of_ble_eq_true rfl, ?_⟩
  refine sp_requirePresent (fun z => absurd rfl z) (fun _ => ?_)
  refine ac_koX (by decide) ?_
  exact h1
theorem c_rcR {a z : Nat} {g : Nat → Int32} {c : Int32} (e : h a = some (.inr (0, z, .inl g))) (h1 : m_bad c z → Q (.inr 3) h) (h2 : ¬ m_bad c z → Q (.inl none) h) : T_X5_requireCell [.ref a, .int c] h Q := by
  (intro P hP; conv => whnf)
  repeat (first | (refine hP _ _ _ _ _ _ ?_; conv => whnf) | (refine ⟨fun q => absurd q (by decide), fun _ => ?_⟩) | (refine ⟨fun _ => ?_, fun q => absurd (by decide) q⟩) | (refine ⟨_, by assumption, ?_⟩; conv => whnf))
  refine ⟨Nat.le_of_ble_eq_true rfl, Nat.le_of_ble_eq_true rfl, Nat.le_of_ble_eq_true rfl, ?_⟩
  refine sp_requirePresent (fun _ => ?_) (fun z => absurd z (by decide))
  refine ac_koN ?_
  repeat (first | (refine hP _ _ _ _ _ _ ?_; conv => whnf) | (refine ⟨fun q => absurd q (by decide), fun _ => ?_⟩) | (refine ⟨fun _ => ?_, fun q => absurd (by decide) q⟩) | (refine ⟨_, by assumption, ?_⟩; conv => whnf))
  refine ⟨_, _, e, ?_⟩
  repeat (first | (refine hP _ _ _ _ _ _ ?_; conv => whnf) | (refine ⟨fun q => absurd q (by decide), fun _ => ?_⟩) | (refine ⟨fun _ => ?_, fun q => absurd (by decide) q⟩) | (refine ⟨_, by assumption, ?_⟩; conv => whnf))
  refine ⟨Nat.le_of_ble_eq_true rfl, Nat.le_of_ble_eq_true rfl, Nat.le_of_ble_eq_true rfl, ?_⟩
  refine sp_requireIndex (fun b1 b2 => ?_) (fun b => ?_)
  · refine ac_koN ?_
    repeat (first | (refine hP _ _ _ _ _ _ ?_; conv => whnf) | (refine ⟨fun q => absurd q (by decide), fun _ => ?_⟩) | (refine ⟨fun _ => ?_, fun q => absurd (by decide) q⟩) | (refine ⟨_, by assumption, ?_⟩; conv => whnf))
    exact ⟨rfl, h2 (fun z => z.elim b1 (fun z => i32_lt_nle b2 z)), by decide, by decide⟩
  · refine ac_koX (by decide) ?_
    exact h1 b
theorem C_cell (C : c_ch h Z x ad ow hd hf S) (W : m_wf S) {r w c : Int32} (hQ : m_app (fun x' a S' => ∀ h', c_CH h' Z x S' → c_fz Z h h' → Q (m_out x' (some (.int a))) h') (f_cell S r w c)) : T_X5_cell [.ref x, .int r, .int w, .int c] h Q := by
  have K0 : c_CH h Z x S := ⟨_, _, _, _, C⟩
  have F0 : c_fz Z h h := fun _ _ => rfl
  unfold f_cell at hQ
  (intro P hP; conv => whnf)
  repeat (first | (refine hP _ _ _ _ _ _ ?_; conv => whnf) | (refine ⟨fun q => absurd q (by decide), fun _ => ?_⟩) | (refine ⟨fun _ => ?_, fun q => absurd (by decide) q⟩) | (refine ac_get C.1 ?_; conv => whnf) | (refine ⟨_, C.1, Nat.le_of_ble_eq_true rfl, Nat.le_of_ble_eq_true rfl, Nat.le_of_ble_eq_true rfl, ?_⟩) | (refine ⟨Nat.le_of_ble_eq_true rfl, Nat.le_of_ble_eq_true rfl, Nat.le_of_ble_eq_true rfl, ?_⟩))
  refine c_rr (fun b => ?_) (fun k hk er => ?_)
  · rw [if_pos b] at hQ
    refine ac_koX (by decide) ?_
    exact hQ _ K0 F0
  subst er
  rw [if_neg (m_badG (by decide) hk), nI_clamp (by omega)] at hQ
  repeat (first | (refine hP _ _ _ _ _ _ ?_; conv => whnf) | (refine ⟨fun q => absurd q (by decide), fun _ => ?_⟩) | (refine ⟨fun _ => ?_, fun q => absurd (by decide) q⟩) | (refine ac_get C.1 ?_; conv => whnf) | (refine ⟨_, C.1, Nat.le_of_ble_eq_true rfl, Nat.le_of_ble_eq_true rfl, Nat.le_of_ble_eq_true rfl, ?_⟩) | (refine ⟨Nat.le_of_ble_eq_true rfl, Nat.le_of_ble_eq_true rfl, Nat.le_of_ble_eq_true rfl, ?_⟩))
  refine c_gridIn C W hk (fun e => ?_) (fun i e q => ?_) (fun i e q => ?_)
  · rw [e] at hQ
    refine ac_koX (by decide) ?_
    exact hQ _ K0 F0
  · rw [e] at hQ
    replace hQ : m_app _ (i_cell S w c i) := hQ
    unfold i_cell at hQ
    rw [if_pos q] at hQ
    refine ac_koX (by decide) ?_
    exact hQ _ K0 F0
  rw [e] at hQ
  replace hQ : m_app _ (i_cell S w c i) := hQ
  unfold i_cell at hQ
  rw [if_neg (fun z => z q)] at hQ
  have hi := W.2.1 k i hk e
  have A := C.2.2.2.1 i hi
  obtain ⟨s, f, e1, e2, e3, e4⟩ := A.2.2.2.2.1 q
  obtain ⟨l6, w4⟩ := (W.2.2 i hi).2.2.2.2.2.1 q
  repeat (first | (refine hP _ _ _ _ _ _ ?_; conv => whnf) | (refine ⟨fun q => absurd q (by decide), fun _ => ?_⟩) | (refine ⟨fun _ => ?_, fun q => absurd (by decide) q⟩) | (refine ac_get C.1 ?_; conv => whnf) | (refine ⟨_, C.1, Nat.le_of_ble_eq_true rfl, Nat.le_of_ble_eq_true rfl, Nat.le_of_ble_eq_true rfl, ?_⟩) | (refine ⟨Nat.le_of_ble_eq_true rfl, Nat.le_of_ble_eq_true rfl, Nat.le_of_ble_eq_true rfl, ?_⟩))
  refine ac_get e1 ?_
  (conv => whnf)
  repeat (first | (refine hP _ _ _ _ _ _ ?_; conv => whnf) | (refine ⟨fun q => absurd q (by decide), fun _ => ?_⟩) | (refine ⟨fun _ => ?_, fun q => absurd (by decide) q⟩) | (refine ac_get C.1 ?_; conv => whnf) | (refine ⟨_, C.1, Nat.le_of_ble_eq_true rfl, Nat.le_of_ble_eq_true rfl, Nat.le_of_ble_eq_true rfl, ?_⟩) | (refine ⟨Nat.le_of_ble_eq_true rfl, Nat.le_of_ble_eq_true rfl, Nat.le_of_ble_eq_true rfl, ?_⟩))
  refine ⟨_, _, e3, ?_⟩
  repeat (first | (refine hP _ _ _ _ _ _ ?_; conv => whnf) | (refine ⟨fun q => absurd q (by decide), fun _ => ?_⟩) | (refine ⟨fun _ => ?_, fun q => absurd (by decide) q⟩) | (refine ac_get C.1 ?_; conv => whnf) | (refine ⟨_, C.1, Nat.le_of_ble_eq_true rfl, Nat.le_of_ble_eq_true rfl, Nat.le_of_ble_eq_true rfl, ?_⟩) | (refine ⟨Nat.le_of_ble_eq_true rfl, Nat.le_of_ble_eq_true rfl, Nat.le_of_ble_eq_true rfl, ?_⟩))
  refine sp_requireIndex (fun b1 b2 => ?_) (fun b => ?_)
  · have nb : ¬ m_bad w (m_ln S i) := fun z => z.elim b1 (fun z => i32_lt_nle b2 z)
    rw [if_neg nb] at hQ
    obtain ⟨t, ht, et⟩ := m_badN (by omega) nb
    obtain ⟨u1, u2⟩ := e4 t ht
    subst et
    rw [nI_clamp (by omega)] at hQ
    repeat (first | (refine hP _ _ _ _ _ _ ?_; conv => whnf) | (refine ⟨fun q => absurd q (by decide), fun _ => ?_⟩) | (refine ⟨fun _ => ?_, fun q => absurd (by decide) q⟩) | (refine ac_get C.1 ?_; conv => whnf) | (refine ⟨_, C.1, Nat.le_of_ble_eq_true rfl, Nat.le_of_ble_eq_true rfl, Nat.le_of_ble_eq_true rfl, ?_⟩) | (refine ⟨Nat.le_of_ble_eq_true rfl, Nat.le_of_ble_eq_true rfl, Nat.le_of_ble_eq_true rfl, ?_⟩))
    refine ac_get e1 ?_
    (conv => whnf)
    repeat (first | (refine hP _ _ _ _ _ _ ?_; conv => whnf) | (refine ⟨fun q => absurd q (by decide), fun _ => ?_⟩) | (refine ⟨fun _ => ?_, fun q => absurd (by decide) q⟩) | (refine ac_get C.1 ?_; conv => whnf) | (refine ⟨_, C.1, Nat.le_of_ble_eq_true rfl, Nat.le_of_ble_eq_true rfl, Nat.le_of_ble_eq_true rfl, ?_⟩) | (refine ⟨Nat.le_of_ble_eq_true rfl, Nat.le_of_ble_eq_true rfl, Nat.le_of_ble_eq_true rfl, ?_⟩))
    refine ⟨_, _, e3, vp_in_nI ht (by omega), ?_⟩
    rw [nI_clamp (by omega)]
    cases l : m_lo S (6 * i + t) with
    | true =>
      rw [if_pos l] at hQ
      rw [u1 l]
      refine ⟨fun _ => ?_, fun q z => by cases z⟩
      repeat (first | (refine hP _ _ _ _ _ _ ?_; conv => whnf) | (refine ⟨fun q => absurd q (by decide), fun _ => ?_⟩) | (refine ⟨fun _ => ?_, fun q => absurd (by decide) q⟩) | (refine ac_get C.1 ?_; conv => whnf) | (refine ⟨_, C.1, Nat.le_of_ble_eq_true rfl, Nat.le_of_ble_eq_true rfl, Nat.le_of_ble_eq_true rfl, ?_⟩) | (refine ⟨Nat.le_of_ble_eq_true rfl, Nat.le_of_ble_eq_true rfl, Nat.le_of_ble_eq_true rfl, ?_⟩))
      refine c_rcN ?_
      refine ac_koX (by decide) ?_
      exact hQ _ K0 F0
    | false =>
      rw [if_neg (by rw [l]; decide)] at hQ
      obtain ⟨v1, v2, g, v3, v4⟩ := u2 l
      rw [v1]
      refine ⟨fun z => (by cases z), fun q z => ?_⟩
      cases z
      repeat (first | (refine hP _ _ _ _ _ _ ?_; conv => whnf) | (refine ⟨fun q => absurd q (by decide), fun _ => ?_⟩) | (refine ⟨fun _ => ?_, fun q => absurd (by decide) q⟩) | (refine ac_get C.1 ?_; conv => whnf) | (refine ⟨_, C.1, Nat.le_of_ble_eq_true rfl, Nat.le_of_ble_eq_true rfl, Nat.le_of_ble_eq_true rfl, ?_⟩) | (refine ⟨Nat.le_of_ble_eq_true rfl, Nat.le_of_ble_eq_true rfl, Nat.le_of_ble_eq_true rfl, ?_⟩))
      refine c_rcR v3 (fun b => ?_) (fun b => ?_)
      · rw [if_pos b] at hQ
        refine ac_koX (by decide) ?_
        exact hQ _ K0 F0
      · rw [if_neg b] at hQ
        obtain ⟨u, hu, eu⟩ := m_badN (by omega) b
        subst eu
        rw [nI_clamp (by omega)] at hQ
        repeat (first | (refine hP _ _ _ _ _ _ ?_; conv => whnf) | (refine ⟨fun q => absurd q (by decide), fun _ => ?_⟩) | (refine ⟨fun _ => ?_, fun q => absurd (by decide) q⟩) | (refine ac_get C.1 ?_; conv => whnf) | (refine ⟨_, C.1, Nat.le_of_ble_eq_true rfl, Nat.le_of_ble_eq_true rfl, Nat.le_of_ble_eq_true rfl, ?_⟩) | (refine ⟨Nat.le_of_ble_eq_true rfl, Nat.le_of_ble_eq_true rfl, Nat.le_of_ble_eq_true rfl, ?_⟩))
        refine ac_get e1 ?_
        (conv => whnf)
        repeat (first | (refine hP _ _ _ _ _ _ ?_; conv => whnf) | (refine ⟨fun q => absurd q (by decide), fun _ => ?_⟩) | (refine ⟨fun _ => ?_, fun q => absurd (by decide) q⟩) | (refine ac_get C.1 ?_; conv => whnf) | (refine ⟨_, C.1, Nat.le_of_ble_eq_true rfl, Nat.le_of_ble_eq_true rfl, Nat.le_of_ble_eq_true rfl, ?_⟩) | (refine ⟨Nat.le_of_ble_eq_true rfl, Nat.le_of_ble_eq_true rfl, Nat.le_of_ble_eq_true rfl, ?_⟩))
        refine ⟨_, _, e3, vp_in_nI ht (by omega), ?_⟩
        rw [nI_clamp (by omega), v1]
        refine ⟨fun z => (by cases z), fun q z => ?_⟩
        cases z
        repeat (first | (refine hP _ _ _ _ _ _ ?_; conv => whnf) | (refine ⟨fun q => absurd q (by decide), fun _ => ?_⟩) | (refine ⟨fun _ => ?_, fun q => absurd (by decide) q⟩) | (refine ac_get C.1 ?_; conv => whnf) | (refine ⟨_, C.1, Nat.le_of_ble_eq_true rfl, Nat.le_of_ble_eq_true rfl, Nat.le_of_ble_eq_true rfl, ?_⟩) | (refine ⟨Nat.le_of_ble_eq_true rfl, Nat.le_of_ble_eq_true rfl, Nat.le_of_ble_eq_true rfl, ?_⟩))
        refine ⟨_, _, v3, vp_in_nI hu (by omega), ?_⟩
        rw [nI_clamp (by omega), v4 u hu]
        repeat (first | (refine hP _ _ _ _ _ _ ?_; conv => whnf) | (refine ⟨fun q => absurd q (by decide), fun _ => ?_⟩) | (refine ⟨fun _ => ?_, fun q => absurd (by decide) q⟩) | (refine ac_get C.1 ?_; conv => whnf) | (refine ⟨_, C.1, Nat.le_of_ble_eq_true rfl, Nat.le_of_ble_eq_true rfl, Nat.le_of_ble_eq_true rfl, ?_⟩) | (refine ⟨Nat.le_of_ble_eq_true rfl, Nat.le_of_ble_eq_true rfl, Nat.le_of_ble_eq_true rfl, ?_⟩))
        exact ⟨rfl, hQ _ K0 F0, by decide, by decide⟩
  · rw [if_pos b] at hQ
    refine ac_koX (by decide) ?_
    exact hQ _ K0 F0
theorem i_l0 {d : Int32} : d.toInt64 = 0 ↔ d = 0 := by
  constructor
  · intro z
    apply Int32.toInt_inj.mp
    rw [← Int32.toInt_toInt64, z]
    decide
  · intro z
    rw [z]
    decide
theorem g_ix {wd t t' u u' : Nat} (hu : u < wd) (hu' : u' < wd) (e : wd * t' + u' = wd * t + u) : t' = t ∧ u' = u := by
  have h1 : (wd * t' + u') / wd = t' := by rw [Nat.mul_add_div (by omega), Nat.div_eq_of_lt hu', Nat.add_zero]
  have h2 : (wd * t + u) / wd = t := by rw [Nat.mul_add_div (by omega), Nat.div_eq_of_lt hu, Nat.add_zero]
  have h3 : t' = t := by rw [← h1, e, h2]
  subst h3
  exact ⟨rfl, by omega⟩
theorem c_setG (C : c_ch h Z x ad ow hd hf S) (W : m_wf S) {i s t u : Nat} {f : Nat → Option Nat} {g : Nat → Int32} {v : Int32} (hi : i < m_mk S) (k9 : m_kd S i = 9) (e1 : h (ad i) = some (.inl (4, [.ref s]))) (e2 : ow s = some i) (e3 : h s = some (.inr (4, m_ln S i, .inr (.inr f)))) (e4 : ∀ t, t < m_ln S i → (m_lo S (6 * i + t) = true → f t = none) ∧ (m_lo S (6 * i + t) = false → f t = some (s + 1 + t) ∧ ow (s + 1 + t) = some i ∧ ∃ g : Nat → Int32, h (s + 1 + t) = some (.inr (0, m_wd S i, .inl g)) ∧ ∀ c, c < m_wd S i → g c = (m_st S (24 * i + (m_wd S i * t + c))).toInt32)) (ht : t < m_ln S i) (l : m_lo S (6 * i + t) = false) (v3 : h (s + 1 + t) = some (.inr (0, m_wd S i, .inl g))) (hu : u < m_wd S i) : c_ch (ac_hs h (s + 1 + t) (.inr (0, m_wd S i, .inl (upd g u v)))) Z x ad ow hd hf (m_sst S (24 * i + (m_wd S i * t + u)) v.toInt64) ∧ c_fz Z h (ac_hs h (s + 1 + t) (.inr (0, m_wd S i, .inl (upd g u v)))) := by
  have A := C.2.2.2.1 i hi
  obtain ⟨l6, w4⟩ := (W.2.2 i hi).2.2.2.2.2.1 k9
  have hc := m_gcell W hi k9 ht hu
  obtain ⟨v1, v2, g', v3', v4⟩ := (e4 t ht).2 l
  have eg : g' = g := by
    rw [v3] at v3'
    cases v3'
    rfl
  subst eg
  have ns : ad i ≠ s + 1 + t := fun z => by rw [z, v3] at e1; cases e1
  refine c_mod (g := i) C W (fun _ _ => rfl) (fun b _ o => ac_hsN (fun z => o (by rw [z]; exact v2))) ?_ (fun j hj n => ?_) rfl rfl
  · refine ⟨A.1, fun z => ?_, fun z => ?_, fun z => ?_, fun _ => ⟨s, f, (ac_hsN ns).trans e1, e2, (ac_hsN (by omega)).trans e3, fun t' ht' => ?_⟩, fun z => ?_, fun z => ?_⟩
    · exact absurd (show m_kd S i ≤ 8 from z) (by omega)
    · exact absurd (show m_kd S i ≤ 7 from z) (by omega)
    · exact absurd (show m_kd S i = 8 from z) (by omega)
    · obtain ⟨u1, u2⟩ := e4 t' ht'
      refine ⟨u1, fun z => ?_⟩
      obtain ⟨y1, y2, gg, y3, y4⟩ := u2 z
      by_cases c : t' = t
      · subst c
        refine ⟨y1, y2, _, ac_hsE, fun c hc => ?_⟩
        show upd g' u v c = (vp_updL (m_st S) (24 * i + (m_wd S i * t' + u)) v.toInt64 (24 * i + (m_wd S i * t' + c))).toInt32
        by_cases c2 : c = u
        · subst c2
          rw [updE, vp_updE]
          exact (Int32.toInt32_toInt64 v).symm
        · rw [updN c2, vp_updN (by omega)]
          exact v4 c hc
      · refine ⟨y1, y2, gg, (ac_hsN (by omega)).trans y3, fun c2 hc2 => ?_⟩
        show _ = (vp_updL (m_st S) (24 * i + (m_wd S i * t + u)) v.toInt64 (24 * i + (m_wd S i * t' + c2))).toInt32
        rw [vp_updN (fun z => c (g_ix hu hc2 (by omega)).1)]
        exact y4 c2 hc2
    · exact absurd (show m_kd S i = 10 from z) (by omega)
    · exact absurd (show m_kd S i = 11 from z) (by omega)
  · exact ⟨rfl, rfl, rfl, rfl, rfl, rfl, fun _ _ => rfl, fun e he => vp_updN (by omega)⟩
theorem C_setCell (C : c_ch h Z x ad ow hd hf S) (W : m_wf S) {r w c v d : Int32} (hQ : m_app (fun x' _ S' => ∀ h', c_CH h' Z x S' → c_fz Z h h' → Q (m_out x' none) h') (f_setCell S r w c v d)) : T_X5_setCell [.ref x, .int r, .int w, .int c, .int v, .int d] h Q := by
  have K0 : c_CH h Z x S := ⟨_, _, _, _, C⟩
  have F0 : c_fz Z h h := fun _ _ => rfl
  unfold f_setCell at hQ
  (intro P hP; conv => whnf)
  repeat (first | (refine hP _ _ _ _ _ _ ?_; conv => whnf) | (refine ⟨fun q => absurd q (by decide), fun _ => ?_⟩) | (refine ⟨fun _ => ?_, fun q => absurd (by decide) q⟩) | (refine ac_get C.1 ?_; conv => whnf) | (refine ⟨_, C.1, Nat.le_of_ble_eq_true rfl, Nat.le_of_ble_eq_true rfl, Nat.le_of_ble_eq_true rfl, ?_⟩) | (refine ⟨Nat.le_of_ble_eq_true rfl, Nat.le_of_ble_eq_true rfl, Nat.le_of_ble_eq_true rfl, ?_⟩))
  refine c_rr (fun b => ?_) (fun k hk er => ?_)
  · rw [if_pos b] at hQ
    refine ac_koX (by decide) ?_
    exact hQ _ K0 F0
  subst er
  rw [if_neg (m_badG (by decide) hk), nI_clamp (by omega)] at hQ
  repeat (first | (refine hP _ _ _ _ _ _ ?_; conv => whnf) | (refine ⟨fun q => absurd q (by decide), fun _ => ?_⟩) | (refine ⟨fun _ => ?_, fun q => absurd (by decide) q⟩) | (refine ac_get C.1 ?_; conv => whnf) | (refine ⟨_, C.1, Nat.le_of_ble_eq_true rfl, Nat.le_of_ble_eq_true rfl, Nat.le_of_ble_eq_true rfl, ?_⟩) | (refine ⟨Nat.le_of_ble_eq_true rfl, Nat.le_of_ble_eq_true rfl, Nat.le_of_ble_eq_true rfl, ?_⟩))
  refine c_gridIn C W hk (fun e => ?_) (fun i e q => ?_) (fun i e q => ?_)
  · rw [e] at hQ
    refine ac_koX (by decide) ?_
    exact hQ _ K0 F0
  · rw [e] at hQ
    replace hQ : m_app _ (i_setCell S w c v d i) := hQ
    unfold i_setCell at hQ
    rw [if_pos q] at hQ
    refine ac_koX (by decide) ?_
    exact hQ _ K0 F0
  rw [e] at hQ
  replace hQ : m_app _ (i_setCell S w c v d i) := hQ
  unfold i_setCell at hQ
  rw [if_neg (fun z => z q)] at hQ
  have hi := W.2.1 k i hk e
  have A := C.2.2.2.1 i hi
  obtain ⟨s, f, e1, e2, e3, e4⟩ := A.2.2.2.2.1 q
  obtain ⟨l6, w4⟩ := (W.2.2 i hi).2.2.2.2.2.1 q
  repeat (first | (refine hP _ _ _ _ _ _ ?_; conv => whnf) | (refine ⟨fun q => absurd q (by decide), fun _ => ?_⟩) | (refine ⟨fun _ => ?_, fun q => absurd (by decide) q⟩) | (refine ac_get C.1 ?_; conv => whnf) | (refine ⟨_, C.1, Nat.le_of_ble_eq_true rfl, Nat.le_of_ble_eq_true rfl, Nat.le_of_ble_eq_true rfl, ?_⟩) | (refine ⟨Nat.le_of_ble_eq_true rfl, Nat.le_of_ble_eq_true rfl, Nat.le_of_ble_eq_true rfl, ?_⟩))
  refine ac_get e1 ?_
  (conv => whnf)
  repeat (first | (refine hP _ _ _ _ _ _ ?_; conv => whnf) | (refine ⟨fun q => absurd q (by decide), fun _ => ?_⟩) | (refine ⟨fun _ => ?_, fun q => absurd (by decide) q⟩) | (refine ac_get C.1 ?_; conv => whnf) | (refine ⟨_, C.1, Nat.le_of_ble_eq_true rfl, Nat.le_of_ble_eq_true rfl, Nat.le_of_ble_eq_true rfl, ?_⟩) | (refine ⟨Nat.le_of_ble_eq_true rfl, Nat.le_of_ble_eq_true rfl, Nat.le_of_ble_eq_true rfl, ?_⟩))
  refine ⟨_, _, e3, ?_⟩
  repeat (first | (refine hP _ _ _ _ _ _ ?_; conv => whnf) | (refine ⟨fun q => absurd q (by decide), fun _ => ?_⟩) | (refine ⟨fun _ => ?_, fun q => absurd (by decide) q⟩) | (refine ac_get C.1 ?_; conv => whnf) | (refine ⟨_, C.1, Nat.le_of_ble_eq_true rfl, Nat.le_of_ble_eq_true rfl, Nat.le_of_ble_eq_true rfl, ?_⟩) | (refine ⟨Nat.le_of_ble_eq_true rfl, Nat.le_of_ble_eq_true rfl, Nat.le_of_ble_eq_true rfl, ?_⟩))
  refine sp_requireIndex (fun b1 b2 => ?_) (fun b => ?_)
  · have nb : ¬ m_bad w (m_ln S i) := fun z => z.elim b1 (fun z => i32_lt_nle b2 z)
    rw [if_neg nb] at hQ
    obtain ⟨t, ht, et⟩ := m_badN (by omega) nb
    obtain ⟨u1, u2⟩ := e4 t ht
    subst et
    rw [nI_clamp (by omega)] at hQ
    repeat (first | (refine hP _ _ _ _ _ _ ?_; conv => whnf) | (refine ⟨fun q => absurd q (by decide), fun _ => ?_⟩) | (refine ⟨fun _ => ?_, fun q => absurd (by decide) q⟩) | (refine ac_get C.1 ?_; conv => whnf) | (refine ⟨_, C.1, Nat.le_of_ble_eq_true rfl, Nat.le_of_ble_eq_true rfl, Nat.le_of_ble_eq_true rfl, ?_⟩) | (refine ⟨Nat.le_of_ble_eq_true rfl, Nat.le_of_ble_eq_true rfl, Nat.le_of_ble_eq_true rfl, ?_⟩))
    refine sp_requireDivisor (fun d0 => ?_) (fun d0 => ?_)
    · have d0' : ¬ d = 0 := fun z => d0 (i_l0.mpr z)
      rw [if_neg d0'] at hQ
      repeat (first | (refine hP _ _ _ _ _ _ ?_; conv => whnf) | (refine ⟨fun q => absurd q (by decide), fun _ => ?_⟩) | (refine ⟨fun _ => ?_, fun q => absurd (by decide) q⟩) | (refine ac_get C.1 ?_; conv => whnf) | (refine ⟨_, C.1, Nat.le_of_ble_eq_true rfl, Nat.le_of_ble_eq_true rfl, Nat.le_of_ble_eq_true rfl, ?_⟩) | (refine ⟨Nat.le_of_ble_eq_true rfl, Nat.le_of_ble_eq_true rfl, Nat.le_of_ble_eq_true rfl, ?_⟩))
      refine ac_get e1 ?_
      (conv => whnf)
      repeat (first | (refine hP _ _ _ _ _ _ ?_; conv => whnf) | (refine ⟨fun q => absurd q (by decide), fun _ => ?_⟩) | (refine ⟨fun _ => ?_, fun q => absurd (by decide) q⟩) | (refine ac_get C.1 ?_; conv => whnf) | (refine ⟨_, C.1, Nat.le_of_ble_eq_true rfl, Nat.le_of_ble_eq_true rfl, Nat.le_of_ble_eq_true rfl, ?_⟩) | (refine ⟨Nat.le_of_ble_eq_true rfl, Nat.le_of_ble_eq_true rfl, Nat.le_of_ble_eq_true rfl, ?_⟩))
      refine ⟨_, _, e3, vp_in_nI ht (by omega), ?_⟩
      rw [nI_clamp (by omega)]
      cases l : m_lo S (6 * i + t) with
      | true =>
        rw [if_pos l] at hQ
        rw [u1 l]
        refine ⟨fun _ => ?_, fun q z => by cases z⟩
        repeat (first | (refine hP _ _ _ _ _ _ ?_; conv => whnf) | (refine ⟨fun q => absurd q (by decide), fun _ => ?_⟩) | (refine ⟨fun _ => ?_, fun q => absurd (by decide) q⟩) | (refine ac_get C.1 ?_; conv => whnf) | (refine ⟨_, C.1, Nat.le_of_ble_eq_true rfl, Nat.le_of_ble_eq_true rfl, Nat.le_of_ble_eq_true rfl, ?_⟩) | (refine ⟨Nat.le_of_ble_eq_true rfl, Nat.le_of_ble_eq_true rfl, Nat.le_of_ble_eq_true rfl, ?_⟩))
        refine c_rcN ?_
        refine ac_koX (by decide) ?_
        exact hQ _ K0 F0
      | false =>
        rw [if_neg (by rw [l]; decide)] at hQ
        obtain ⟨v1, v2, g, v3, v4⟩ := u2 l
        rw [v1]
        refine ⟨fun z => (by cases z), fun q z => ?_⟩
        cases z
        repeat (first | (refine hP _ _ _ _ _ _ ?_; conv => whnf) | (refine ⟨fun q => absurd q (by decide), fun _ => ?_⟩) | (refine ⟨fun _ => ?_, fun q => absurd (by decide) q⟩) | (refine ac_get C.1 ?_; conv => whnf) | (refine ⟨_, C.1, Nat.le_of_ble_eq_true rfl, Nat.le_of_ble_eq_true rfl, Nat.le_of_ble_eq_true rfl, ?_⟩) | (refine ⟨Nat.le_of_ble_eq_true rfl, Nat.le_of_ble_eq_true rfl, Nat.le_of_ble_eq_true rfl, ?_⟩))
        refine c_rcR v3 (fun b => ?_) (fun b => ?_)
        · rw [if_pos b] at hQ
          refine ac_koX (by decide) ?_
          exact hQ _ K0 F0
        · rw [if_neg b] at hQ
          obtain ⟨u, hu, eu⟩ := m_badN (by omega) b
          subst eu
          rw [nI_clamp (by omega)] at hQ
          repeat (first | (refine hP _ _ _ _ _ _ ?_; conv => whnf) | (refine ⟨fun q => absurd q (by decide), fun _ => ?_⟩) | (refine ⟨fun _ => ?_, fun q => absurd (by decide) q⟩) | (refine ac_get C.1 ?_; conv => whnf) | (refine ⟨_, C.1, Nat.le_of_ble_eq_true rfl, Nat.le_of_ble_eq_true rfl, Nat.le_of_ble_eq_true rfl, ?_⟩) | (refine ⟨Nat.le_of_ble_eq_true rfl, Nat.le_of_ble_eq_true rfl, Nat.le_of_ble_eq_true rfl, ?_⟩))
          refine ac_get e1 ?_
          (conv => whnf)
          repeat (first | (refine hP _ _ _ _ _ _ ?_; conv => whnf) | (refine ⟨fun q => absurd q (by decide), fun _ => ?_⟩) | (refine ⟨fun _ => ?_, fun q => absurd (by decide) q⟩) | (refine ac_get C.1 ?_; conv => whnf) | (refine ⟨_, C.1, Nat.le_of_ble_eq_true rfl, Nat.le_of_ble_eq_true rfl, Nat.le_of_ble_eq_true rfl, ?_⟩) | (refine ⟨Nat.le_of_ble_eq_true rfl, Nat.le_of_ble_eq_true rfl, Nat.le_of_ble_eq_true rfl, ?_⟩))
          refine ⟨_, _, e3, vp_in_nI ht (by omega), ?_⟩
          rw [nI_clamp (by omega), v1]
          refine ⟨fun z => (by cases z), fun q z => ?_⟩
          cases z
          repeat (first | (refine hP _ _ _ _ _ _ ?_; conv => whnf) | (refine ⟨fun q => absurd q (by decide), fun _ => ?_⟩) | (refine ⟨fun _ => ?_, fun q => absurd (by decide) q⟩) | (refine ac_get C.1 ?_; conv => whnf) | (refine ⟨_, C.1, Nat.le_of_ble_eq_true rfl, Nat.le_of_ble_eq_true rfl, Nat.le_of_ble_eq_true rfl, ?_⟩) | (refine ⟨Nat.le_of_ble_eq_true rfl, Nat.le_of_ble_eq_true rfl, Nat.le_of_ble_eq_true rfl, ?_⟩))
          refine ⟨d0', ?_⟩
          repeat (first | (refine hP _ _ _ _ _ _ ?_; conv => whnf) | (refine ⟨fun q => absurd q (by decide), fun _ => ?_⟩) | (refine ⟨fun _ => ?_, fun q => absurd (by decide) q⟩) | (refine ac_get C.1 ?_; conv => whnf) | (refine ⟨_, C.1, Nat.le_of_ble_eq_true rfl, Nat.le_of_ble_eq_true rfl, Nat.le_of_ble_eq_true rfl, ?_⟩) | (refine ⟨Nat.le_of_ble_eq_true rfl, Nat.le_of_ble_eq_true rfl, Nat.le_of_ble_eq_true rfl, ?_⟩))
          refine ⟨_, _, v3, vp_in_nI hu (by omega), ?_⟩
          rw [nI_clamp (by omega)]
          obtain ⟨C', F'⟩ := c_setG C W (v := v / d) hi q e1 e2 e3 e4 ht l v3 hu
          repeat (first | (refine hP _ _ _ _ _ _ ?_; conv => whnf) | (refine ⟨fun q => absurd q (by decide), fun _ => ?_⟩) | (refine ⟨fun _ => ?_, fun q => absurd (by decide) q⟩) | (refine ac_get C.1 ?_; conv => whnf) | (refine ⟨_, C.1, Nat.le_of_ble_eq_true rfl, Nat.le_of_ble_eq_true rfl, Nat.le_of_ble_eq_true rfl, ?_⟩) | (refine ⟨Nat.le_of_ble_eq_true rfl, Nat.le_of_ble_eq_true rfl, Nat.le_of_ble_eq_true rfl, ?_⟩))
          exact ⟨rfl, hQ _ ⟨_, _, _, _, C'⟩ F', by decide, by decide⟩
    · rw [if_pos (i_l0.mp d0)] at hQ
      refine ac_koX (by decide) ?_
      exact hQ _ K0 F0
  · rw [if_pos b] at hQ
    refine ac_koX (by decide) ?_
    exact hQ _ K0 F0
theorem c_setI (C : c_ch h Z x ad ow hd hf S) (W : m_wf S) {g p s : Nat} {o : Option Nat} {f : Nat → Option Nat} (ho : ∀ j, o = some j → j < 512) (hg : g < m_mk S) (hk : m_kd S g = 8) (l : m_lo S (6 * g) = false) (hp : p < m_ln S g) (q1 : h (ad g) = some (.inl (6, [.int (nI 8), .null, .ref s]))) (q2 : ow s = some g) (q3 : h s = some (.inr (3, m_ln S g, .inr (.inr f)))) (q4 : ∀ e, e < m_ln S g → f e = c_oa ad (m_dl (m_st S (24 * g + e)))) : c_ch (ac_hs h s (.inr (3, m_ln S g, .inr (.inr (va_up f p (c_oa ad o)))))) Z x ad ow hd hf (m_sst S (24 * g + p) (m_lv o)) ∧ c_fz Z h (ac_hs h s (.inr (3, m_ln S g, .inr (.inr (va_up f p (c_oa ad o)))))) := by
  have h24 := (W.2.2 g hg).2.1
  have ns : ad g ≠ s := fun z => by rw [z, q3] at q1; cases q1
  refine c_mod (g := g) C W (fun _ _ => rfl) (fun b _ o => ac_hsN (fun z => o (by rw [z]; exact q2))) ?_ (fun i hi n => ?_) rfl rfl
  · have a1 := (C.2.2.2.1 g hg).1
    refine ⟨a1, fun _ l' => ?_, fun k _ => ?_, fun _ _ => ⟨s, _, (ac_hsN ns).trans q1, q2, ac_hsE, fun e he => ?_⟩, fun k => ?_, fun k => ?_, fun k => ?_⟩
    · exact absurd (l.symm.trans l') (by decide)
    · exact absurd (show m_kd S g ≤ 7 from k) (by omega)
    · show va_up f p (c_oa ad o) e = c_oa ad (m_dl (vp_updL (m_st S) (24 * g + p) (m_lv o) (24 * g + e)))
      by_cases c : e = p
      · subst c
        rw [va_upE, vp_updE, m_dlv ho]
      · rw [va_upN c, vp_updN (by omega)]
        exact q4 e he
    · exact absurd (show m_kd S g = 9 from k) (by omega)
    · exact absurd (show m_kd S g = 10 from k) (by omega)
    · exact absurd (show m_kd S g = 11 from k) (by omega)
  · exact ⟨rfl, rfl, rfl, rfl, rfl, rfl, fun _ _ => rfl, fun e he => vp_updN (by omega)⟩
theorem c_xpl {i : Nat} {ix : Int32} {v : Option Value} (q : ¬ (m_pl S i ix).1 = 7) (hx : Q (m_out (m_pl S i ix).1 v) h) : Q (.inr (m_pl S i ix).1) h := by
  rcases m_pl3 (S := S) (i := i) (ix := ix) with z | z | z
  · rw [z] at hx ⊢
    exact hx
  · rw [z] at hx ⊢
    exact hx
  · exact absurd z q
theorem C_refer (C : c_ch h Z x ad ow hd hf S) (W : m_wf S) {r ix f : Int32} (hQ : m_app (fun x' _ S' => ∀ h', c_CH h' Z x S' → c_fz Z h h' → Q (m_out x' none) h') (f_refer S r ix f)) : T_X5_refer [.ref x, .int r, .int ix, .int f] h Q := by
  have K0 : c_CH h Z x S := ⟨_, _, _, _, C⟩
  have F0 : c_fz Z h h := fun _ _ => rfl
  unfold f_refer at hQ
  (intro P hP; conv => whnf)
  repeat (first | (refine hP _ _ _ _ _ _ ?_; conv => whnf) | (refine ⟨fun q => absurd q (by decide), fun _ => ?_⟩) | (refine ⟨fun _ => ?_, fun q => absurd (by decide) q⟩) | (refine ac_get C.1 ?_; conv => whnf) | (refine ⟨_, C.1, Nat.le_of_ble_eq_true rfl, Nat.le_of_ble_eq_true rfl, Nat.le_of_ble_eq_true rfl, ?_⟩) | (refine ⟨Nat.le_of_ble_eq_true rfl, Nat.le_of_ble_eq_true rfl, Nat.le_of_ble_eq_true rfl, ?_⟩))
  refine c_rr (fun b => ?_) (fun k hk er => ?_)
  · rw [if_pos (Or.inl b)] at hQ
    refine ac_koX (by decide) ?_
    exact hQ _ K0 F0
  subst er
  repeat (first | (refine hP _ _ _ _ _ _ ?_; conv => whnf) | (refine ⟨fun q => absurd q (by decide), fun _ => ?_⟩) | (refine ⟨fun _ => ?_, fun q => absurd (by decide) q⟩) | (refine ac_get C.1 ?_; conv => whnf) | (refine ⟨_, C.1, Nat.le_of_ble_eq_true rfl, Nat.le_of_ble_eq_true rfl, Nat.le_of_ble_eq_true rfl, ?_⟩) | (refine ⟨Nat.le_of_ble_eq_true rfl, Nat.le_of_ble_eq_true rfl, Nat.le_of_ble_eq_true rfl, ?_⟩))
  refine c_rr (fun b => ?_) (fun t ht er => ?_)
  · rw [if_pos (Or.inr b)] at hQ
    refine ac_koX (by decide) ?_
    exact hQ _ K0 F0
  subst er
  rw [if_neg (fun z => z.elim (m_badG (by decide) hk) (m_badG (by decide) ht)), nI_clamp (by omega), nI_clamp (by omega)] at hQ
  repeat (first | (refine hP _ _ _ _ _ _ ?_; conv => whnf) | (refine ⟨fun q => absurd q (by decide), fun _ => ?_⟩) | (refine ⟨fun _ => ?_, fun q => absurd (by decide) q⟩) | (refine ac_get C.1 ?_; conv => whnf) | (refine ⟨_, C.1, Nat.le_of_ble_eq_true rfl, Nat.le_of_ble_eq_true rfl, Nat.le_of_ble_eq_true rfl, ?_⟩) | (refine ⟨Nat.le_of_ble_eq_true rfl, Nat.le_of_ble_eq_true rfl, Nat.le_of_ble_eq_true rfl, ?_⟩))
  refine c_itemIn C hk (fun e => ?_) (fun i e => ?_)
  · rw [e] at hQ
    refine ac_koX (by decide) ?_
    exact hQ _ K0 F0
  rw [e] at hQ
  replace hQ : m_app _ (i_refer S ix t i) := hQ
  unfold i_refer at hQ
  have hi := W.2.1 k i hk e
  obtain ⟨w1, w2, w3, w4, w5, w6, w7, w8, w9, w10⟩ := W.2.2 i hi
  repeat (first | (refine hP _ _ _ _ _ _ ?_; conv => whnf) | (refine ⟨fun q => absurd q (by decide), fun _ => ?_⟩) | (refine ⟨fun _ => ?_, fun q => absurd (by decide) q⟩) | (refine ac_get C.1 ?_; conv => whnf) | (refine ⟨_, C.1, Nat.le_of_ble_eq_true rfl, Nat.le_of_ble_eq_true rfl, Nat.le_of_ble_eq_true rfl, ?_⟩) | (refine ⟨Nat.le_of_ble_eq_true rfl, Nat.le_of_ble_eq_true rfl, Nat.le_of_ble_eq_true rfl, ?_⟩))
  refine c_sortU C W hi (Nat.le_of_ble_eq_true rfl) (Nat.le_of_ble_eq_true rfl) (Nat.le_of_ble_eq_true rfl) ?_
  repeat (first | (refine hP _ _ _ _ _ _ ?_; conv => whnf) | (refine ⟨fun q => absurd q (by decide), fun _ => ?_⟩) | (refine ⟨fun _ => ?_, fun q => absurd (by decide) q⟩) | (refine ac_get C.1 ?_; conv => whnf) | (refine ⟨_, C.1, Nat.le_of_ble_eq_true rfl, Nat.le_of_ble_eq_true rfl, Nat.le_of_ble_eq_true rfl, ?_⟩) | (refine ⟨Nat.le_of_ble_eq_true rfl, Nat.le_of_ble_eq_true rfl, Nat.le_of_ble_eq_true rfl, ?_⟩))
  by_cases c8 : m_kd S (m_gr S i) = 8
  · rw [if_neg (fun z => z c8)] at hQ
    refine br_f (fun z => z (by rw [c8]; rfl)) ?_
    repeat (first | (refine hP _ _ _ _ _ _ ?_; conv => whnf) | (refine ⟨fun q => absurd q (by decide), fun _ => ?_⟩) | (refine ⟨fun _ => ?_, fun q => absurd (by decide) q⟩) | (refine ac_get C.1 ?_; conv => whnf) | (refine ⟨_, C.1, Nat.le_of_ble_eq_true rfl, Nat.le_of_ble_eq_true rfl, Nat.le_of_ble_eq_true rfl, ?_⟩) | (refine ⟨Nat.le_of_ble_eq_true rfl, Nat.le_of_ble_eq_true rfl, Nat.le_of_ble_eq_true rfl, ?_⟩))
    refine sp_requireSupported (fun _ => ?_) (fun z => absurd z (by decide))
    repeat (first | (refine hP _ _ _ _ _ _ ?_; conv => whnf) | (refine ⟨fun q => absurd q (by decide), fun _ => ?_⟩) | (refine ⟨fun _ => ?_, fun q => absurd (by decide) q⟩) | (refine ac_get C.1 ?_; conv => whnf) | (refine ⟨_, C.1, Nat.le_of_ble_eq_true rfl, Nat.le_of_ble_eq_true rfl, Nat.le_of_ble_eq_true rfl, ?_⟩) | (refine ⟨Nat.le_of_ble_eq_true rfl, Nat.le_of_ble_eq_true rfl, Nat.le_of_ble_eq_true rfl, ?_⟩))
    refine c_place C W hi (by omega) (fun q => ?_) (fun q => ?_)
    · rw [if_neg q] at hQ
      exact ac_koX (c_x7 q) (c_xpl q (hQ _ K0 F0))
    · rw [if_pos q] at hQ
      obtain ⟨p1, p2, p3⟩ := m_pl7 W hi q
      have A := C.2.2.2.1 _ w4
      obtain ⟨s, f, q1, q2, q3, q4⟩ := A.2.2.2.1 c8 p1
      have h24 := (W.2.2 _ w4).2.1
      have n9 : m_kd S i ≠ 9 := fun z => by rw [(w9 (by omega)).1] at c8; omega
      have n10 : m_kd S i ≠ 10 := fun z => by rw [(w9 (by omega)).1] at c8; omega
      obtain ⟨C', F'⟩ := c_setI C W (o := m_rg S t) (m_wr W ht) w4 c8 p1 p2 q1 q2 q3 q4
      repeat (first | (refine hP _ _ _ _ _ _ ?_; conv => whnf) | (refine ⟨fun q => absurd q (by decide), fun _ => ?_⟩) | (refine ⟨fun _ => ?_, fun q => absurd (by decide) q⟩) | (refine ac_get C.1 ?_; conv => whnf) | (refine ⟨_, C.1, Nat.le_of_ble_eq_true rfl, Nat.le_of_ble_eq_true rfl, Nat.le_of_ble_eq_true rfl, ?_⟩) | (refine ⟨Nat.le_of_ble_eq_true rfl, Nat.le_of_ble_eq_true rfl, Nat.le_of_ble_eq_true rfl, ?_⟩))
      refine c_groundU C W hi (Nat.le_of_ble_eq_true rfl) (Nat.le_of_ble_eq_true rfl) (Nat.le_of_ble_eq_true rfl) n9 n10 ?_
      repeat (first | (refine hP _ _ _ _ _ _ ?_; conv => whnf) | (refine ⟨fun q => absurd q (by decide), fun _ => ?_⟩) | (refine ⟨fun _ => ?_, fun q => absurd (by decide) q⟩) | (refine ac_get C.1 ?_; conv => whnf) | (refine ⟨_, C.1, Nat.le_of_ble_eq_true rfl, Nat.le_of_ble_eq_true rfl, Nat.le_of_ble_eq_true rfl, ?_⟩) | (refine ⟨Nat.le_of_ble_eq_true rfl, Nat.le_of_ble_eq_true rfl, Nat.le_of_ble_eq_true rfl, ?_⟩))
      refine ac_get q1 ?_
      (conv => whnf)
      repeat (first | (refine hP _ _ _ _ _ _ ?_; conv => whnf) | (refine ⟨fun q => absurd q (by decide), fun _ => ?_⟩) | (refine ⟨fun _ => ?_, fun q => absurd (by decide) q⟩) | (refine ac_get C.1 ?_; conv => whnf) | (refine ⟨_, C.1, Nat.le_of_ble_eq_true rfl, Nat.le_of_ble_eq_true rfl, Nat.le_of_ble_eq_true rfl, ?_⟩) | (refine ⟨Nat.le_of_ble_eq_true rfl, Nat.le_of_ble_eq_true rfl, Nat.le_of_ble_eq_true rfl, ?_⟩))
      refine c_hd C ht rfl (fun e2 => ?_) (fun j e2 => ?_)
      · rw [e2] at C' F' hQ
        repeat (first | (refine hP _ _ _ _ _ _ ?_; conv => whnf) | (refine ⟨fun q => absurd q (by decide), fun _ => ?_⟩) | (refine ⟨fun _ => ?_, fun q => absurd (by decide) q⟩) | (refine ac_get C.1 ?_; conv => whnf) | (refine ⟨_, C.1, Nat.le_of_ble_eq_true rfl, Nat.le_of_ble_eq_true rfl, Nat.le_of_ble_eq_true rfl, ?_⟩) | (refine ⟨Nat.le_of_ble_eq_true rfl, Nat.le_of_ble_eq_true rfl, Nat.le_of_ble_eq_true rfl, ?_⟩))
        refine ⟨_, _, q3, vp_in_nI p2 (by omega), ?_⟩
        rw [nI_clamp (by omega)]
        repeat (first | (refine hP _ _ _ _ _ _ ?_; conv => whnf) | (refine ⟨fun q => absurd q (by decide), fun _ => ?_⟩) | (refine ⟨fun _ => ?_, fun q => absurd (by decide) q⟩) | (refine ac_get C.1 ?_; conv => whnf) | (refine ⟨_, C.1, Nat.le_of_ble_eq_true rfl, Nat.le_of_ble_eq_true rfl, Nat.le_of_ble_eq_true rfl, ?_⟩) | (refine ⟨Nat.le_of_ble_eq_true rfl, Nat.le_of_ble_eq_true rfl, Nat.le_of_ble_eq_true rfl, ?_⟩))
        exact ⟨rfl, hQ _ ⟨_, _, _, _, C'⟩ F', by decide, by decide⟩
      · rw [e2] at C' F' hQ
        obtain ⟨fs, ej⟩ := c_cls C W (W.2.1 t j ht e2)
        repeat (first | (refine hP _ _ _ _ _ _ ?_; conv => whnf) | (refine ⟨fun q => absurd q (by decide), fun _ => ?_⟩) | (refine ⟨fun _ => ?_, fun q => absurd (by decide) q⟩) | (refine ac_get C.1 ?_; conv => whnf) | (refine ⟨_, C.1, Nat.le_of_ble_eq_true rfl, Nat.le_of_ble_eq_true rfl, Nat.le_of_ble_eq_true rfl, ?_⟩) | (refine ⟨Nat.le_of_ble_eq_true rfl, Nat.le_of_ble_eq_true rfl, Nat.le_of_ble_eq_true rfl, ?_⟩))
        refine ⟨rfl, _, _, _, _, q3, ej, c_clI _ _ ⟨vp_in_nI p2 (by omega), ?_⟩⟩
        rw [nI_clamp (by omega)]
        repeat (first | (refine hP _ _ _ _ _ _ ?_; conv => whnf) | (refine ⟨fun q => absurd q (by decide), fun _ => ?_⟩) | (refine ⟨fun _ => ?_, fun q => absurd (by decide) q⟩) | (refine ac_get C.1 ?_; conv => whnf) | (refine ⟨_, C.1, Nat.le_of_ble_eq_true rfl, Nat.le_of_ble_eq_true rfl, Nat.le_of_ble_eq_true rfl, ?_⟩) | (refine ⟨Nat.le_of_ble_eq_true rfl, Nat.le_of_ble_eq_true rfl, Nat.le_of_ble_eq_true rfl, ?_⟩))
        exact ⟨rfl, hQ _ ⟨_, _, _, _, C'⟩ F', by decide, by decide⟩
  · rw [if_pos c8] at hQ
    refine br_t (nI_ne (b := 8) c8 (by omega) (by decide)) ?_
    repeat (first | (refine hP _ _ _ _ _ _ ?_; conv => whnf) | (refine ⟨fun q => absurd q (by decide), fun _ => ?_⟩) | (refine ⟨fun _ => ?_, fun q => absurd (by decide) q⟩) | (refine ac_get C.1 ?_; conv => whnf) | (refine ⟨_, C.1, Nat.le_of_ble_eq_true rfl, Nat.le_of_ble_eq_true rfl, Nat.le_of_ble_eq_true rfl, ?_⟩) | (refine ⟨Nat.le_of_ble_eq_true rfl, Nat.le_of_ble_eq_true rfl, Nat.le_of_ble_eq_true rfl, ?_⟩))
    refine sp_requireSupported (fun z => absurd rfl z) (fun _ => ?_)
    refine ac_koX (by decide) ?_
    exact hQ _ K0 F0
theorem C_fetch (C : c_ch h Z x ad ow hd hf S) (W : m_wf S) {t r ix : Int32} (hQ : m_app (fun x' a S' => ∀ h', c_CH h' Z x S' → c_fz Z h h' → Q (m_out x' (some (.int a))) h') (f_fetch S t r ix)) : T_X5_fetch [.ref x, .int t, .int r, .int ix] h Q := by
  have K0 : c_CH h Z x S := ⟨_, _, _, _, C⟩
  have F0 : c_fz Z h h := fun _ _ => rfl
  unfold f_fetch at hQ
  (intro P hP; conv => whnf)
  repeat (first | (refine hP _ _ _ _ _ _ ?_; conv => whnf) | (refine ⟨fun q => absurd q (by decide), fun _ => ?_⟩) | (refine ⟨fun _ => ?_, fun q => absurd (by decide) q⟩) | (refine ac_get C.1 ?_; conv => whnf) | (refine ⟨_, C.1, Nat.le_of_ble_eq_true rfl, Nat.le_of_ble_eq_true rfl, Nat.le_of_ble_eq_true rfl, ?_⟩) | (refine ⟨Nat.le_of_ble_eq_true rfl, Nat.le_of_ble_eq_true rfl, Nat.le_of_ble_eq_true rfl, ?_⟩))
  refine c_rr (fun b => ?_) (fun t ht er => ?_)
  · rw [if_pos (Or.inl b)] at hQ
    refine ac_koX (by decide) ?_
    exact hQ _ K0 F0
  subst er
  repeat (first | (refine hP _ _ _ _ _ _ ?_; conv => whnf) | (refine ⟨fun q => absurd q (by decide), fun _ => ?_⟩) | (refine ⟨fun _ => ?_, fun q => absurd (by decide) q⟩) | (refine ac_get C.1 ?_; conv => whnf) | (refine ⟨_, C.1, Nat.le_of_ble_eq_true rfl, Nat.le_of_ble_eq_true rfl, Nat.le_of_ble_eq_true rfl, ?_⟩) | (refine ⟨Nat.le_of_ble_eq_true rfl, Nat.le_of_ble_eq_true rfl, Nat.le_of_ble_eq_true rfl, ?_⟩))
  refine c_rr (fun b => ?_) (fun k hk er => ?_)
  · rw [if_pos (Or.inr b)] at hQ
    refine ac_koX (by decide) ?_
    exact hQ _ K0 F0
  subst er
  rw [if_neg (fun z => z.elim (m_badG (by decide) ht) (m_badG (by decide) hk)), nI_clamp (by omega), nI_clamp (by omega)] at hQ
  repeat (first | (refine hP _ _ _ _ _ _ ?_; conv => whnf) | (refine ⟨fun q => absurd q (by decide), fun _ => ?_⟩) | (refine ⟨fun _ => ?_, fun q => absurd (by decide) q⟩) | (refine ac_get C.1 ?_; conv => whnf) | (refine ⟨_, C.1, Nat.le_of_ble_eq_true rfl, Nat.le_of_ble_eq_true rfl, Nat.le_of_ble_eq_true rfl, ?_⟩) | (refine ⟨Nat.le_of_ble_eq_true rfl, Nat.le_of_ble_eq_true rfl, Nat.le_of_ble_eq_true rfl, ?_⟩))
  refine c_itemIn C hk (fun e => ?_) (fun i e => ?_)
  · rw [e] at hQ
    refine ac_koX (by decide) ?_
    exact hQ _ K0 F0
  rw [e] at hQ
  replace hQ : m_app _ (i_fetch S t ix i) := hQ
  unfold i_fetch at hQ
  have hi := W.2.1 k i hk e
  obtain ⟨w1, w2, w3, w4, w5, w6, w7, w8, w9, w10⟩ := W.2.2 i hi
  repeat (first | (refine hP _ _ _ _ _ _ ?_; conv => whnf) | (refine ⟨fun q => absurd q (by decide), fun _ => ?_⟩) | (refine ⟨fun _ => ?_, fun q => absurd (by decide) q⟩) | (refine ac_get C.1 ?_; conv => whnf) | (refine ⟨_, C.1, Nat.le_of_ble_eq_true rfl, Nat.le_of_ble_eq_true rfl, Nat.le_of_ble_eq_true rfl, ?_⟩) | (refine ⟨Nat.le_of_ble_eq_true rfl, Nat.le_of_ble_eq_true rfl, Nat.le_of_ble_eq_true rfl, ?_⟩))
  refine c_sortU C W hi (Nat.le_of_ble_eq_true rfl) (Nat.le_of_ble_eq_true rfl) (Nat.le_of_ble_eq_true rfl) ?_
  repeat (first | (refine hP _ _ _ _ _ _ ?_; conv => whnf) | (refine ⟨fun q => absurd q (by decide), fun _ => ?_⟩) | (refine ⟨fun _ => ?_, fun q => absurd (by decide) q⟩) | (refine ac_get C.1 ?_; conv => whnf) | (refine ⟨_, C.1, Nat.le_of_ble_eq_true rfl, Nat.le_of_ble_eq_true rfl, Nat.le_of_ble_eq_true rfl, ?_⟩) | (refine ⟨Nat.le_of_ble_eq_true rfl, Nat.le_of_ble_eq_true rfl, Nat.le_of_ble_eq_true rfl, ?_⟩))
  by_cases c8 : m_kd S (m_gr S i) = 8
  · rw [if_neg (fun z => z c8)] at hQ
    refine br_f (fun z => z (by rw [c8]; rfl)) ?_
    repeat (first | (refine hP _ _ _ _ _ _ ?_; conv => whnf) | (refine ⟨fun q => absurd q (by decide), fun _ => ?_⟩) | (refine ⟨fun _ => ?_, fun q => absurd (by decide) q⟩) | (refine ac_get C.1 ?_; conv => whnf) | (refine ⟨_, C.1, Nat.le_of_ble_eq_true rfl, Nat.le_of_ble_eq_true rfl, Nat.le_of_ble_eq_true rfl, ?_⟩) | (refine ⟨Nat.le_of_ble_eq_true rfl, Nat.le_of_ble_eq_true rfl, Nat.le_of_ble_eq_true rfl, ?_⟩))
    refine sp_requireSupported (fun _ => ?_) (fun z => absurd z (by decide))
    repeat (first | (refine hP _ _ _ _ _ _ ?_; conv => whnf) | (refine ⟨fun q => absurd q (by decide), fun _ => ?_⟩) | (refine ⟨fun _ => ?_, fun q => absurd (by decide) q⟩) | (refine ac_get C.1 ?_; conv => whnf) | (refine ⟨_, C.1, Nat.le_of_ble_eq_true rfl, Nat.le_of_ble_eq_true rfl, Nat.le_of_ble_eq_true rfl, ?_⟩) | (refine ⟨Nat.le_of_ble_eq_true rfl, Nat.le_of_ble_eq_true rfl, Nat.le_of_ble_eq_true rfl, ?_⟩))
    refine c_place C W hi (by omega) (fun q => ?_) (fun q => ?_)
    · rw [if_neg q] at hQ
      exact ac_koX (c_x7 q) (c_xpl q (hQ _ K0 F0))
    · rw [if_pos q] at hQ
      obtain ⟨p1, p2, p3⟩ := m_pl7 W hi q
      have A := C.2.2.2.1 _ w4
      obtain ⟨s, f, q1, q2, q3, q4⟩ := A.2.2.2.1 c8 p1
      have h24 := (W.2.2 _ w4).2.1
      have n9 : m_kd S i ≠ 9 := fun z => by rw [(w9 (by omega)).1] at c8; omega
      have n10 : m_kd S i ≠ 10 := fun z => by rw [(w9 (by omega)).1] at c8; omega
      have hL := (W.2.2 _ w4).2.2.2.2.2.2.1 c8 _ (show (m_pl S i ix).2 < 24 by omega)
      repeat (first | (refine hP _ _ _ _ _ _ ?_; conv => whnf) | (refine ⟨fun q => absurd q (by decide), fun _ => ?_⟩) | (refine ⟨fun _ => ?_, fun q => absurd (by decide) q⟩) | (refine ac_get C.1 ?_; conv => whnf) | (refine ⟨_, C.1, Nat.le_of_ble_eq_true rfl, Nat.le_of_ble_eq_true rfl, Nat.le_of_ble_eq_true rfl, ?_⟩) | (refine ⟨Nat.le_of_ble_eq_true rfl, Nat.le_of_ble_eq_true rfl, Nat.le_of_ble_eq_true rfl, ?_⟩))
      refine c_groundU C W hi (Nat.le_of_ble_eq_true rfl) (Nat.le_of_ble_eq_true rfl) (Nat.le_of_ble_eq_true rfl) n9 n10 ?_
      repeat (first | (refine hP _ _ _ _ _ _ ?_; conv => whnf) | (refine ⟨fun q => absurd q (by decide), fun _ => ?_⟩) | (refine ⟨fun _ => ?_, fun q => absurd (by decide) q⟩) | (refine ac_get C.1 ?_; conv => whnf) | (refine ⟨_, C.1, Nat.le_of_ble_eq_true rfl, Nat.le_of_ble_eq_true rfl, Nat.le_of_ble_eq_true rfl, ?_⟩) | (refine ⟨Nat.le_of_ble_eq_true rfl, Nat.le_of_ble_eq_true rfl, Nat.le_of_ble_eq_true rfl, ?_⟩))
      refine ac_get q1 ?_
      (conv => whnf)
      repeat (first | (refine hP _ _ _ _ _ _ ?_; conv => whnf) | (refine ⟨fun q => absurd q (by decide), fun _ => ?_⟩) | (refine ⟨fun _ => ?_, fun q => absurd (by decide) q⟩) | (refine ac_get C.1 ?_; conv => whnf) | (refine ⟨_, C.1, Nat.le_of_ble_eq_true rfl, Nat.le_of_ble_eq_true rfl, Nat.le_of_ble_eq_true rfl, ?_⟩) | (refine ⟨Nat.le_of_ble_eq_true rfl, Nat.le_of_ble_eq_true rfl, Nat.le_of_ble_eq_true rfl, ?_⟩))
      refine ⟨_, _, q3, vp_in_nI p2 (by omega), ?_⟩
      rw [nI_clamp (by omega), q4 _ p2]
      have hb := hL.2
      generalize m_dl (m_st S (24 * m_gr S i + (m_pl S i ix).2)) = o at hb hQ ⊢
      cases o with
      | none =>
        refine ⟨fun _ => ?_, fun q z => by cases z⟩
        repeat (first | (refine hP _ _ _ _ _ _ ?_; conv => whnf) | (refine ⟨fun q => absurd q (by decide), fun _ => ?_⟩) | (refine ⟨fun _ => ?_, fun q => absurd (by decide) q⟩) | (refine ac_get C.1 ?_; conv => whnf) | (refine ⟨_, C.1, Nat.le_of_ble_eq_true rfl, Nat.le_of_ble_eq_true rfl, Nat.le_of_ble_eq_true rfl, ?_⟩) | (refine ⟨Nat.le_of_ble_eq_true rfl, Nat.le_of_ble_eq_true rfl, Nat.le_of_ble_eq_true rfl, ?_⟩))
        refine c_whN C W ht rfl (fun h' C' F' => ?_)
        repeat (first | (refine hP _ _ _ _ _ _ ?_; conv => whnf) | (refine ⟨fun q => absurd q (by decide), fun _ => ?_⟩) | (refine ⟨fun _ => ?_, fun q => absurd (by decide) q⟩) | (refine ac_get C.1 ?_; conv => whnf) | (refine ⟨_, C.1, Nat.le_of_ble_eq_true rfl, Nat.le_of_ble_eq_true rfl, Nat.le_of_ble_eq_true rfl, ?_⟩) | (refine ⟨Nat.le_of_ble_eq_true rfl, Nat.le_of_ble_eq_true rfl, Nat.le_of_ble_eq_true rfl, ?_⟩))
        exact ⟨rfl, hQ _ ⟨_, _, _, _, C'⟩ F', by decide, by decide⟩
      | some j =>
        refine ⟨fun z => (by cases z), fun q z => ?_⟩
        cases z
        repeat (first | (refine hP _ _ _ _ _ _ ?_; conv => whnf) | (refine ⟨fun q => absurd q (by decide), fun _ => ?_⟩) | (refine ⟨fun _ => ?_, fun q => absurd (by decide) q⟩) | (refine ac_get C.1 ?_; conv => whnf) | (refine ⟨_, C.1, Nat.le_of_ble_eq_true rfl, Nat.le_of_ble_eq_true rfl, Nat.le_of_ble_eq_true rfl, ?_⟩) | (refine ⟨Nat.le_of_ble_eq_true rfl, Nat.le_of_ble_eq_true rfl, Nat.le_of_ble_eq_true rfl, ?_⟩))
        refine c_whR C W (hb j rfl) ht rfl (fun h' C' F' => ?_)
        repeat (first | (refine hP _ _ _ _ _ _ ?_; conv => whnf) | (refine ⟨fun q => absurd q (by decide), fun _ => ?_⟩) | (refine ⟨fun _ => ?_, fun q => absurd (by decide) q⟩) | (refine ac_get C.1 ?_; conv => whnf) | (refine ⟨_, C.1, Nat.le_of_ble_eq_true rfl, Nat.le_of_ble_eq_true rfl, Nat.le_of_ble_eq_true rfl, ?_⟩) | (refine ⟨Nat.le_of_ble_eq_true rfl, Nat.le_of_ble_eq_true rfl, Nat.le_of_ble_eq_true rfl, ?_⟩))
        refine c_sortU C' (wf_srg W hb) (hb j rfl) (Nat.le_of_ble_eq_true rfl) (Nat.le_of_ble_eq_true rfl) (Nat.le_of_ble_eq_true rfl) ?_
        repeat (first | (refine hP _ _ _ _ _ _ ?_; conv => whnf) | (refine ⟨fun q => absurd q (by decide), fun _ => ?_⟩) | (refine ⟨fun _ => ?_, fun q => absurd (by decide) q⟩) | (refine ac_get C.1 ?_; conv => whnf) | (refine ⟨_, C.1, Nat.le_of_ble_eq_true rfl, Nat.le_of_ble_eq_true rfl, Nat.le_of_ble_eq_true rfl, ?_⟩) | (refine ⟨Nat.le_of_ble_eq_true rfl, Nat.le_of_ble_eq_true rfl, Nat.le_of_ble_eq_true rfl, ?_⟩))
        exact ⟨rfl, hQ _ ⟨_, _, _, _, C'⟩ F', by decide, by decide⟩
  · rw [if_pos c8] at hQ
    refine br_t (nI_ne (b := 8) c8 (by omega) (by decide)) ?_
    repeat (first | (refine hP _ _ _ _ _ _ ?_; conv => whnf) | (refine ⟨fun q => absurd q (by decide), fun _ => ?_⟩) | (refine ⟨fun _ => ?_, fun q => absurd (by decide) q⟩) | (refine ac_get C.1 ?_; conv => whnf) | (refine ⟨_, C.1, Nat.le_of_ble_eq_true rfl, Nat.le_of_ble_eq_true rfl, Nat.le_of_ble_eq_true rfl, ?_⟩) | (refine ⟨Nat.le_of_ble_eq_true rfl, Nat.le_of_ble_eq_true rfl, Nat.le_of_ble_eq_true rfl, ?_⟩))
    refine sp_requireSupported (fun z => absurd rfl z) (fun _ => ?_)
    refine ac_koX (by decide) ?_
    exact hQ _ K0 F0
end CLG
