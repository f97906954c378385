section CLD2
variable {h : ac_H} {Z : Nat → Prop} {x : Nat} {ad : Nat → Nat} {ow : Nat → Option Nat} {hd : Nat} {hf : Nat → Option Nat} {S : m_S} {Q : ac_Q}
theorem c_rz {n : Int32} (h2 : n < 0 → Q (.inr 4) h) (h1 : ¬ n < 0 → Q (.inl none) h) : T_X5_requireSize [.int n] h Q := sp_requireSize h1 h2
theorem C_make (C : c_ch h Z x ad ow hd hf S) (W : m_wf S) (hm : m_mk S < 512) {r s n : Int32} (hQ : m_app (fun x' a S' => ∀ h', c_CH h' Z x S' → c_fz Z h h' → Q (m_out x' (some (.int a))) h') (f_make S r s n)) : T_X5_make [.ref x, .int r, .int s, .int n] h Q := by
  have K0 : c_CH h Z x S := ⟨_, _, _, _, C⟩
  have F0 : c_fz Z h h := fun _ _ => rfl
  unfold f_make at hQ
  (intro P hP; conv => whnf)
  repeat (first | (refine hP _ _ _ _ _ _ ?_; conv => whnf) | (refine ⟨fun q => absurd q (by decide), fun _ => ?_⟩) | (refine ⟨fun _ => ?_, fun q => absurd (by decide) q⟩) | (refine ac_get C.1 ?_; conv => whnf) | (refine ⟨_, C.1, Nat.le_of_ble_eq_true rfl, Nat.le_of_ble_eq_true rfl, Nat.le_of_ble_eq_true rfl, ?_⟩) | (refine ⟨Nat.le_of_ble_eq_true rfl, Nat.le_of_ble_eq_true rfl, Nat.le_of_ble_eq_true rfl, ?_⟩))
  refine c_rr (fun b => ?_) (fun k hk er => ?_)
  · rw [if_pos (Or.inl b)] at hQ
    refine ac_koX (by decide) ?_
    exact hQ _ K0 F0
  subst er
  repeat (first | (refine hP _ _ _ _ _ _ ?_; conv => whnf) | (refine ⟨fun q => absurd q (by decide), fun _ => ?_⟩) | (refine ⟨fun _ => ?_, fun q => absurd (by decide) q⟩) | (refine ac_get C.1 ?_; conv => whnf) | (refine ⟨_, C.1, Nat.le_of_ble_eq_true rfl, Nat.le_of_ble_eq_true rfl, Nat.le_of_ble_eq_true rfl, ?_⟩) | (refine ⟨Nat.le_of_ble_eq_true rfl, Nat.le_of_ble_eq_true rfl, Nat.le_of_ble_eq_true rfl, ?_⟩))
  refine ⟨fun q => ?_, fun q => ?_⟩
  · rw [if_pos (Or.inr (Or.inl (Or.inl q)))] at hQ
    repeat (first | (refine hP _ _ _ _ _ _ ?_; conv => whnf) | (refine ⟨fun q => absurd q (by decide), fun _ => ?_⟩) | (refine ⟨fun _ => ?_, fun q => absurd (by decide) q⟩) | (refine ac_get C.1 ?_; conv => whnf) | (refine ⟨_, C.1, Nat.le_of_ble_eq_true rfl, Nat.le_of_ble_eq_true rfl, Nat.le_of_ble_eq_true rfl, ?_⟩) | (refine ⟨Nat.le_of_ble_eq_true rfl, Nat.le_of_ble_eq_true rfl, Nat.le_of_ble_eq_true rfl, ?_⟩))
    refine sp_requireArgument (fun z => absurd rfl z) (fun _ => ?_)
    refine ac_koX (by decide) ?_
    exact hQ _ K0 F0
  repeat (first | (refine hP _ _ _ _ _ _ ?_; conv => whnf) | (refine ⟨fun q => absurd q (by decide), fun _ => ?_⟩) | (refine ⟨fun _ => ?_, fun q => absurd (by decide) q⟩) | (refine ac_get C.1 ?_; conv => whnf) | (refine ⟨_, C.1, Nat.le_of_ble_eq_true rfl, Nat.le_of_ble_eq_true rfl, Nat.le_of_ble_eq_true rfl, ?_⟩) | (refine ⟨Nat.le_of_ble_eq_true rfl, Nat.le_of_ble_eq_true rfl, Nat.le_of_ble_eq_true rfl, ?_⟩))
  refine ⟨fun q2 => ?_, fun q2 => ?_⟩
  · rw [if_pos (Or.inr (Or.inl ((m_badT (z := 9) (by decide) (by decide)).mp (Or.inr q2))))] at hQ
    repeat (first | (refine hP _ _ _ _ _ _ ?_; conv => whnf) | (refine ⟨fun q => absurd q (by decide), fun _ => ?_⟩) | (refine ⟨fun _ => ?_, fun q => absurd (by decide) q⟩) | (refine ac_get C.1 ?_; conv => whnf) | (refine ⟨_, C.1, Nat.le_of_ble_eq_true rfl, Nat.le_of_ble_eq_true rfl, Nat.le_of_ble_eq_true rfl, ?_⟩) | (refine ⟨Nat.le_of_ble_eq_true rfl, Nat.le_of_ble_eq_true rfl, Nat.le_of_ble_eq_true rfl, ?_⟩))
    refine sp_requireArgument (fun z => absurd rfl z) (fun _ => ?_)
    refine ac_koX (by decide) ?_
    exact hQ _ K0 F0
  repeat (first | (refine hP _ _ _ _ _ _ ?_; conv => whnf) | (refine ⟨fun q => absurd q (by decide), fun _ => ?_⟩) | (refine ⟨fun _ => ?_, fun q => absurd (by decide) q⟩) | (refine ac_get C.1 ?_; conv => whnf) | (refine ⟨_, C.1, Nat.le_of_ble_eq_true rfl, Nat.le_of_ble_eq_true rfl, Nat.le_of_ble_eq_true rfl, ?_⟩) | (refine ⟨Nat.le_of_ble_eq_true rfl, Nat.le_of_ble_eq_true rfl, Nat.le_of_ble_eq_true rfl, ?_⟩))
  refine sp_requireArgument (fun _ => ?_) (fun z => absurd z (by decide))
  have q2' : ¬ m_bad s 9 := fun z => ((m_badT (z := 9) (by decide) (by decide)).mpr z).elim q q2
  repeat (first | (refine hP _ _ _ _ _ _ ?_; conv => whnf) | (refine ⟨fun q => absurd q (by decide), fun _ => ?_⟩) | (refine ⟨fun _ => ?_, fun q => absurd (by decide) q⟩) | (refine ac_get C.1 ?_; conv => whnf) | (refine ⟨_, C.1, Nat.le_of_ble_eq_true rfl, Nat.le_of_ble_eq_true rfl, Nat.le_of_ble_eq_true rfl, ?_⟩) | (refine ⟨Nat.le_of_ble_eq_true rfl, Nat.le_of_ble_eq_true rfl, Nat.le_of_ble_eq_true rfl, ?_⟩))
  refine ⟨fun q3 => ?_, fun q3 => ?_⟩
  · rw [if_pos (Or.inr (Or.inr q3))] at hQ
    repeat (first | (refine hP _ _ _ _ _ _ ?_; conv => whnf) | (refine ⟨fun q => absurd q (by decide), fun _ => ?_⟩) | (refine ⟨fun _ => ?_, fun q => absurd (by decide) q⟩) | (refine ac_get C.1 ?_; conv => whnf) | (refine ⟨_, C.1, Nat.le_of_ble_eq_true rfl, Nat.le_of_ble_eq_true rfl, Nat.le_of_ble_eq_true rfl, ?_⟩) | (refine ⟨Nat.le_of_ble_eq_true rfl, Nat.le_of_ble_eq_true rfl, Nat.le_of_ble_eq_true rfl, ?_⟩))
    refine sp_requireArgument (fun z => absurd rfl z) (fun _ => ?_)
    refine ac_koX (by decide) ?_
    exact hQ _ K0 F0
  rw [if_neg (fun z => z.elim (m_badG (by decide) hk) (fun z => z.elim q2' q3))] at hQ
  repeat (first | (refine hP _ _ _ _ _ _ ?_; conv => whnf) | (refine ⟨fun q => absurd q (by decide), fun _ => ?_⟩) | (refine ⟨fun _ => ?_, fun q => absurd (by decide) q⟩) | (refine ac_get C.1 ?_; conv => whnf) | (refine ⟨_, C.1, Nat.le_of_ble_eq_true rfl, Nat.le_of_ble_eq_true rfl, Nat.le_of_ble_eq_true rfl, ?_⟩) | (refine ⟨Nat.le_of_ble_eq_true rfl, Nat.le_of_ble_eq_true rfl, Nat.le_of_ble_eq_true rfl, ?_⟩))
  refine sp_requireArgument (fun _ => ?_) (fun z => absurd z (by decide))
  repeat (first | (refine hP _ _ _ _ _ _ ?_; conv => whnf) | (refine ⟨fun q => absurd q (by decide), fun _ => ?_⟩) | (refine ⟨fun _ => ?_, fun q => absurd (by decide) q⟩) | (refine ac_get C.1 ?_; conv => whnf) | (refine ⟨_, C.1, Nat.le_of_ble_eq_true rfl, Nat.le_of_ble_eq_true rfl, Nat.le_of_ble_eq_true rfl, ?_⟩) | (refine ⟨Nat.le_of_ble_eq_true rfl, Nat.le_of_ble_eq_true rfl, Nat.le_of_ble_eq_true rfl, ?_⟩))
  refine c_rz (fun q4 => ?_) (fun q4 => ?_)
  · rw [if_pos q4] at hQ
    refine ac_koX (by decide) ?_
    exact hQ _ K0 F0
  rw [if_neg q4] at hQ
  obtain ⟨t, ht, rfl⟩ := m_badN (by decide) q2'
  obtain ⟨u, hu, rfl⟩ := nI_of q4
  have hu24 : u ≤ 24 := by
    have : ¬ 24 < u := fun z => q3 (nI_lt (a := 24) z hu)
    omega
  rw [nI_clamp (by omega), nI_clamp (by omega), nI_clamp hu] at hQ
  have nx : h x ≠ none := fun z => by have := C.1; rw [z] at this; cases this
  have nd : h hd ≠ none := fun z => by have := C.2.1; rw [z] at this; cases this
  repeat (first | (refine hP _ _ _ _ _ _ ?_; conv => whnf) | (refine ⟨fun q => absurd q (by decide), fun _ => ?_⟩) | (refine ⟨fun _ => ?_, fun q => absurd (by decide) q⟩) | (refine ac_get C.1 ?_; conv => whnf) | (refine ⟨_, C.1, Nat.le_of_ble_eq_true rfl, Nat.le_of_ble_eq_true rfl, Nat.le_of_ble_eq_true rfl, ?_⟩) | (refine ⟨Nat.le_of_ble_eq_true rfl, Nat.le_of_ble_eq_true rfl, Nat.le_of_ble_eq_true rfl, ?_⟩))
  refine ⟨Nat.le_of_ble_eq_true rfl, Nat.le_of_ble_eq_true rfl, fun qa hq => ?_⟩
  repeat (first | (refine hP _ _ _ _ _ _ ?_; conv => whnf) | (refine ⟨fun q => absurd q (by decide), fun _ => ?_⟩) | (refine ⟨fun _ => ?_, fun q => absurd (by decide) q⟩) | (refine ac_get C.1 ?_; conv => whnf) | (refine ⟨_, C.1, Nat.le_of_ble_eq_true rfl, Nat.le_of_ble_eq_true rfl, Nat.le_of_ble_eq_true rfl, ?_⟩) | (refine ⟨Nat.le_of_ble_eq_true rfl, Nat.le_of_ble_eq_true rfl, Nat.le_of_ble_eq_true rfl, ?_⟩))
  by_cases t8 : t = 8
  · subst t8
    refine sp_X3_initI ac_hsE hu24 (fun h' s1 hs1 e1 e2 e3 => ?_)
    have n1 : s1 ≠ qa := fun z => by rw [z, ac_hsE] at hs1; cases hs1
    have hs2 : h s1 = none := (ac_hsN n1).symm.trans hs1
    have ext : ∀ b, h b ≠ none → h' b = h b := fun b nb => (e3 b (fun z => nb (by rw [z]; exact hq)) (fun z => nb (by rw [z]; exact hs2))).trans (ac_hsX hq b nb)
    repeat (first | (refine hP _ _ _ _ _ _ ?_; conv => whnf) | (refine ⟨fun q => absurd q (by decide), fun _ => ?_⟩) | (refine ⟨fun _ => ?_, fun q => absurd (by decide) q⟩) | (refine ac_get C.1 ?_; conv => whnf) | (refine ⟨_, C.1, Nat.le_of_ble_eq_true rfl, Nat.le_of_ble_eq_true rfl, Nat.le_of_ble_eq_true rfl, ?_⟩) | (refine ⟨Nat.le_of_ble_eq_true rfl, Nat.le_of_ble_eq_true rfl, Nat.le_of_ble_eq_true rfl, ?_⟩))
    refine ⟨_, (ext x nx).trans C.1, Nat.le_of_ble_eq_true rfl, Nat.le_of_ble_eq_true rfl, Nat.le_of_ble_eq_true rfl, ?_⟩
    refine c_hold ((ext x nx).trans C.1) ((ext hd nd).trans C.2.1) e1 (fun _ X => X) hk (fun h2 u1 u2 u3 => ?_)
    obtain ⟨C', F'⟩ := c_add C W ext u1 u2 u3 (c_newI (r := k) W hu24 hq hs2 e1 e2) (wf_v W hm (Or.inl (by omega)) hu24) (fun i hi => (ag_gh hi).1) rfl rfl
    repeat (first | (refine hP _ _ _ _ _ _ ?_; conv => whnf) | (refine ⟨fun q => absurd q (by decide), fun _ => ?_⟩) | (refine ⟨fun _ => ?_, fun q => absurd (by decide) q⟩) | (refine ac_get C.1 ?_; conv => whnf) | (refine ⟨_, C.1, Nat.le_of_ble_eq_true rfl, Nat.le_of_ble_eq_true rfl, Nat.le_of_ble_eq_true rfl, ?_⟩) | (refine ⟨Nat.le_of_ble_eq_true rfl, Nat.le_of_ble_eq_true rfl, Nat.le_of_ble_eq_true rfl, ?_⟩))
    exact ⟨rfl, hQ _ ⟨_, _, _, _, C'⟩ F', by decide, by decide⟩
  · refine sp_X3_initN ac_hsE (by omega) hu24 (fun h' s1 hs1 e1 e2 e3 => ?_)
    have n1 : s1 ≠ qa := fun z => by rw [z, ac_hsE] at hs1; cases hs1
    have hs2 : h s1 = none := (ac_hsN n1).symm.trans hs1
    have ext : ∀ b, h b ≠ none → h' b = h b := fun b nb => (e3 b (fun z => nb (by rw [z]; exact hq)) (fun z => nb (by rw [z]; exact hs2))).trans (ac_hsX hq b nb)
    repeat (first | (refine hP _ _ _ _ _ _ ?_; conv => whnf) | (refine ⟨fun q => absurd q (by decide), fun _ => ?_⟩) | (refine ⟨fun _ => ?_, fun q => absurd (by decide) q⟩) | (refine ac_get C.1 ?_; conv => whnf) | (refine ⟨_, C.1, Nat.le_of_ble_eq_true rfl, Nat.le_of_ble_eq_true rfl, Nat.le_of_ble_eq_true rfl, ?_⟩) | (refine ⟨Nat.le_of_ble_eq_true rfl, Nat.le_of_ble_eq_true rfl, Nat.le_of_ble_eq_true rfl, ?_⟩))
    refine ⟨_, (ext x nx).trans C.1, Nat.le_of_ble_eq_true rfl, Nat.le_of_ble_eq_true rfl, Nat.le_of_ble_eq_true rfl, ?_⟩
    refine c_hold ((ext x nx).trans C.1) ((ext hd nd).trans C.2.1) e1 (fun _ X => X) hk (fun h2 u1 u2 u3 => ?_)
    obtain ⟨C', F'⟩ := c_add C W ext u1 u2 u3 (c_newN (r := k) W (by omega) hu24 hq hs2 e1 e2) (wf_v W hm (Or.inl (by omega)) hu24) (fun i hi => (ag_gh hi).1) rfl rfl
    repeat (first | (refine hP _ _ _ _ _ _ ?_; conv => whnf) | (refine ⟨fun q => absurd q (by decide), fun _ => ?_⟩) | (refine ⟨fun _ => ?_, fun q => absurd (by decide) q⟩) | (refine ac_get C.1 ?_; conv => whnf) | (refine ⟨_, C.1, Nat.le_of_ble_eq_true rfl, Nat.le_of_ble_eq_true rfl, Nat.le_of_ble_eq_true rfl, ?_⟩) | (refine ⟨Nat.le_of_ble_eq_true rfl, Nat.le_of_ble_eq_true rfl, Nat.le_of_ble_eq_true rfl, ?_⟩))
    exact ⟨rfl, hQ _ ⟨_, _, _, _, C'⟩ F', by decide, by decide⟩
theorem C_record (C : c_ch h Z x ad ow hd hf S) (W : m_wf S) (hm : m_mk S < 512) {r : Int32} (hQ : m_app (fun x' a S' => ∀ h', c_CH h' Z x S' → c_fz Z h h' → Q (m_out x' (some (.int a))) h') (f_record S r)) : T_X5_record [.ref x, .int r] h Q := by
  have K0 : c_CH h Z x S := ⟨_, _, _, _, C⟩
  have F0 : c_fz Z h h := fun _ _ => rfl
  unfold f_record at hQ
  (intro P hP; conv => whnf)
  repeat (first | (refine hP _ _ _ _ _ _ ?_; conv => whnf) | (refine ⟨fun q => absurd q (by decide), fun _ => ?_⟩) | (refine ⟨fun _ => ?_, fun q => absurd (by decide) q⟩) | (refine ac_get C.1 ?_; conv => whnf) | (refine ⟨_, C.1, Nat.le_of_ble_eq_true rfl, Nat.le_of_ble_eq_true rfl, Nat.le_of_ble_eq_true rfl, ?_⟩) | (refine ⟨Nat.le_of_ble_eq_true rfl, Nat.le_of_ble_eq_true rfl, Nat.le_of_ble_eq_true rfl, ?_⟩))
  refine c_rr (fun b => ?_) (fun k hk er => ?_)
  · rw [if_pos b] at hQ
    refine ac_koX (by decide) ?_
    exact hQ _ K0 F0
  subst er
  rw [if_neg (m_badG (by decide) hk), nI_clamp (by omega)] at hQ
  have nx : h x ≠ none := fun z => by have := C.1; rw [z] at this; cases this
  have nd : h hd ≠ none := fun z => by have := C.2.1; rw [z] at this; cases this
  repeat (first | (refine hP _ _ _ _ _ _ ?_; conv => whnf) | (refine ⟨fun q => absurd q (by decide), fun _ => ?_⟩) | (refine ⟨fun _ => ?_, fun q => absurd (by decide) q⟩) | (refine ac_get C.1 ?_; conv => whnf) | (refine ⟨_, C.1, Nat.le_of_ble_eq_true rfl, Nat.le_of_ble_eq_true rfl, Nat.le_of_ble_eq_true rfl, ?_⟩) | (refine ⟨Nat.le_of_ble_eq_true rfl, Nat.le_of_ble_eq_true rfl, Nat.le_of_ble_eq_true rfl, ?_⟩))
  refine ⟨Nat.le_of_ble_eq_true rfl, Nat.le_of_ble_eq_true rfl, fun q hq => ?_⟩
  repeat (first | (refine hP _ _ _ _ _ _ ?_; conv => whnf) | (refine ⟨fun q => absurd q (by decide), fun _ => ?_⟩) | (refine ⟨fun _ => ?_, fun q => absurd (by decide) q⟩) | (refine ac_get C.1 ?_; conv => whnf) | (refine ⟨_, C.1, Nat.le_of_ble_eq_true rfl, Nat.le_of_ble_eq_true rfl, Nat.le_of_ble_eq_true rfl, ?_⟩) | (refine ⟨Nat.le_of_ble_eq_true rfl, Nat.le_of_ble_eq_true rfl, Nat.le_of_ble_eq_true rfl, ?_⟩))
  refine sp_X2_init ac_hsE (fun h' e1 e3 => ?_)
  have ext : ∀ b, h b ≠ none → h' b = h b := fun b nb => (e3 b (fun z => nb (by rw [z]; exact hq))).trans (ac_hsX hq b nb)
  repeat (first | (refine hP _ _ _ _ _ _ ?_; conv => whnf) | (refine ⟨fun q => absurd q (by decide), fun _ => ?_⟩) | (refine ⟨fun _ => ?_, fun q => absurd (by decide) q⟩) | (refine ac_get C.1 ?_; conv => whnf) | (refine ⟨_, C.1, Nat.le_of_ble_eq_true rfl, Nat.le_of_ble_eq_true rfl, Nat.le_of_ble_eq_true rfl, ?_⟩) | (refine ⟨Nat.le_of_ble_eq_true rfl, Nat.le_of_ble_eq_true rfl, Nat.le_of_ble_eq_true rfl, ?_⟩))
  refine ⟨_, (ext x nx).trans C.1, Nat.le_of_ble_eq_true rfl, Nat.le_of_ble_eq_true rfl, Nat.le_of_ble_eq_true rfl, ?_⟩
  refine c_hold ((ext x nx).trans C.1) ((ext hd nd).trans C.2.1) e1 (fun _ X => X) hk (fun h2 u1 u2 u3 => ?_)
  obtain ⟨C', F'⟩ := c_add C W ext u1 u2 u3 (c_newR (r := k) W hq e1) (wf_v W hm (Or.inr rfl) (by omega)) (fun i hi => (ag_gh hi).1) rfl rfl
  repeat (first | (refine hP _ _ _ _ _ _ ?_; conv => whnf) | (refine ⟨fun q => absurd q (by decide), fun _ => ?_⟩) | (refine ⟨fun _ => ?_, fun q => absurd (by decide) q⟩) | (refine ac_get C.1 ?_; conv => whnf) | (refine ⟨_, C.1, Nat.le_of_ble_eq_true rfl, Nat.le_of_ble_eq_true rfl, Nat.le_of_ble_eq_true rfl, ?_⟩) | (refine ⟨Nat.le_of_ble_eq_true rfl, Nat.le_of_ble_eq_true rfl, Nat.le_of_ble_eq_true rfl, ?_⟩))
  exact ⟨rfl, hQ _ ⟨_, _, _, _, C'⟩ F', by decide, by decide⟩
theorem C_grid (C : c_ch h Z x ad ow hd hf S) (W : m_wf S) (hm : m_mk S < 512) {r a b : Int32} (hQ : m_app (fun x' a S' => ∀ h', c_CH h' Z x S' → c_fz Z h h' → Q (m_out x' (some (.int a))) h') (f_grid S r a b)) : T_X5_grid [.ref x, .int r, .int a, .int b] h Q := by
  have K0 : c_CH h Z x S := ⟨_, _, _, _, C⟩
  have F0 : c_fz Z h h := fun _ _ => rfl
  unfold f_grid at hQ
  (intro P hP; conv => whnf)
  repeat (first | (refine hP _ _ _ _ _ _ ?_; conv => whnf) | (refine ⟨fun q => absurd q (by decide), fun _ => ?_⟩) | (refine ⟨fun _ => ?_, fun q => absurd (by decide) q⟩) | (refine ac_get C.1 ?_; conv => whnf) | (refine ⟨_, C.1, Nat.le_of_ble_eq_true rfl, Nat.le_of_ble_eq_true rfl, Nat.le_of_ble_eq_true rfl, ?_⟩) | (refine ⟨Nat.le_of_ble_eq_true rfl, Nat.le_of_ble_eq_true rfl, Nat.le_of_ble_eq_true rfl, ?_⟩))
  refine c_rr (fun b => ?_) (fun k hk er => ?_)
  · rw [if_pos (Or.inl b)] at hQ
    refine ac_koX (by decide) ?_
    exact hQ _ K0 F0
  subst er
  repeat (first | (refine hP _ _ _ _ _ _ ?_; conv => whnf) | (refine ⟨fun q => absurd q (by decide), fun _ => ?_⟩) | (refine ⟨fun _ => ?_, fun q => absurd (by decide) q⟩) | (refine ac_get C.1 ?_; conv => whnf) | (refine ⟨_, C.1, Nat.le_of_ble_eq_true rfl, Nat.le_of_ble_eq_true rfl, Nat.le_of_ble_eq_true rfl, ?_⟩) | (refine ⟨Nat.le_of_ble_eq_true rfl, Nat.le_of_ble_eq_true rfl, Nat.le_of_ble_eq_true rfl, ?_⟩))
  refine ⟨fun q => ?_, fun q => ?_⟩
  · rw [if_pos (Or.inr (Or.inl q))] at hQ
    repeat (first | (refine hP _ _ _ _ _ _ ?_; conv => whnf) | (refine ⟨fun q => absurd q (by decide), fun _ => ?_⟩) | (refine ⟨fun _ => ?_, fun q => absurd (by decide) q⟩) | (refine ac_get C.1 ?_; conv => whnf) | (refine ⟨_, C.1, Nat.le_of_ble_eq_true rfl, Nat.le_of_ble_eq_true rfl, Nat.le_of_ble_eq_true rfl, ?_⟩) | (refine ⟨Nat.le_of_ble_eq_true rfl, Nat.le_of_ble_eq_true rfl, Nat.le_of_ble_eq_true rfl, ?_⟩))
    refine sp_requireArgument (fun z => absurd rfl z) (fun _ => ?_)
    refine ac_koX (by decide) ?_
    exact hQ _ K0 F0
  repeat (first | (refine hP _ _ _ _ _ _ ?_; conv => whnf) | (refine ⟨fun q => absurd q (by decide), fun _ => ?_⟩) | (refine ⟨fun _ => ?_, fun q => absurd (by decide) q⟩) | (refine ac_get C.1 ?_; conv => whnf) | (refine ⟨_, C.1, Nat.le_of_ble_eq_true rfl, Nat.le_of_ble_eq_true rfl, Nat.le_of_ble_eq_true rfl, ?_⟩) | (refine ⟨Nat.le_of_ble_eq_true rfl, Nat.le_of_ble_eq_true rfl, Nat.le_of_ble_eq_true rfl, ?_⟩))
  refine sp_requireArgument (fun _ => ?_) (fun z => absurd z (by decide))
  repeat (first | (refine hP _ _ _ _ _ _ ?_; conv => whnf) | (refine ⟨fun q => absurd q (by decide), fun _ => ?_⟩) | (refine ⟨fun _ => ?_, fun q => absurd (by decide) q⟩) | (refine ac_get C.1 ?_; conv => whnf) | (refine ⟨_, C.1, Nat.le_of_ble_eq_true rfl, Nat.le_of_ble_eq_true rfl, Nat.le_of_ble_eq_true rfl, ?_⟩) | (refine ⟨Nat.le_of_ble_eq_true rfl, Nat.le_of_ble_eq_true rfl, Nat.le_of_ble_eq_true rfl, ?_⟩))
  refine ⟨fun q2 => ?_, fun q2 => ?_⟩
  · rw [if_pos (Or.inr (Or.inr q2))] at hQ
    repeat (first | (refine hP _ _ _ _ _ _ ?_; conv => whnf) | (refine ⟨fun q => absurd q (by decide), fun _ => ?_⟩) | (refine ⟨fun _ => ?_, fun q => absurd (by decide) q⟩) | (refine ac_get C.1 ?_; conv => whnf) | (refine ⟨_, C.1, Nat.le_of_ble_eq_true rfl, Nat.le_of_ble_eq_true rfl, Nat.le_of_ble_eq_true rfl, ?_⟩) | (refine ⟨Nat.le_of_ble_eq_true rfl, Nat.le_of_ble_eq_true rfl, Nat.le_of_ble_eq_true rfl, ?_⟩))
    refine sp_requireArgument (fun z => absurd rfl z) (fun _ => ?_)
    refine ac_koX (by decide) ?_
    exact hQ _ K0 F0
  rw [if_neg (fun z => z.elim (m_badG (by decide) hk) (fun z => z.elim q q2))] at hQ
  repeat (first | (refine hP _ _ _ _ _ _ ?_; conv => whnf) | (refine ⟨fun q => absurd q (by decide), fun _ => ?_⟩) | (refine ⟨fun _ => ?_, fun q => absurd (by decide) q⟩) | (refine ac_get C.1 ?_; conv => whnf) | (refine ⟨_, C.1, Nat.le_of_ble_eq_true rfl, Nat.le_of_ble_eq_true rfl, Nat.le_of_ble_eq_true rfl, ?_⟩) | (refine ⟨Nat.le_of_ble_eq_true rfl, Nat.le_of_ble_eq_true rfl, Nat.le_of_ble_eq_true rfl, ?_⟩))
  refine sp_requireArgument (fun _ => ?_) (fun z => absurd z (by decide))
  repeat (first | (refine hP _ _ _ _ _ _ ?_; conv => whnf) | (refine ⟨fun q => absurd q (by decide), fun _ => ?_⟩) | (refine ⟨fun _ => ?_, fun q => absurd (by decide) q⟩) | (refine ac_get C.1 ?_; conv => whnf) | (refine ⟨_, C.1, Nat.le_of_ble_eq_true rfl, Nat.le_of_ble_eq_true rfl, Nat.le_of_ble_eq_true rfl, ?_⟩) | (refine ⟨Nat.le_of_ble_eq_true rfl, Nat.le_of_ble_eq_true rfl, Nat.le_of_ble_eq_true rfl, ?_⟩))
  refine c_rz (fun q3 => ?_) (fun q3 => ?_)
  · rw [if_pos (Or.inl q3)] at hQ
    refine ac_koX (by decide) ?_
    exact hQ _ K0 F0
  repeat (first | (refine hP _ _ _ _ _ _ ?_; conv => whnf) | (refine ⟨fun q => absurd q (by decide), fun _ => ?_⟩) | (refine ⟨fun _ => ?_, fun q => absurd (by decide) q⟩) | (refine ac_get C.1 ?_; conv => whnf) | (refine ⟨_, C.1, Nat.le_of_ble_eq_true rfl, Nat.le_of_ble_eq_true rfl, Nat.le_of_ble_eq_true rfl, ?_⟩) | (refine ⟨Nat.le_of_ble_eq_true rfl, Nat.le_of_ble_eq_true rfl, Nat.le_of_ble_eq_true rfl, ?_⟩))
  refine c_rz (fun q4 => ?_) (fun q4 => ?_)
  · rw [if_pos (Or.inr q4)] at hQ
    refine ac_koX (by decide) ?_
    exact hQ _ K0 F0
  rw [if_neg (fun z => z.elim q3 q4)] at hQ
  obtain ⟨t, ht, rfl⟩ := nI_of q3
  obtain ⟨u, hu, rfl⟩ := nI_of q4
  have ht6 : t ≤ 6 := by
    have : ¬ 6 < t := fun z => q (nI_lt (a := 6) z ht)
    omega
  have hu4 : u ≤ 4 := by
    have : ¬ 4 < u := fun z => q2 (nI_lt (a := 4) z hu)
    omega
  rw [nI_clamp (by omega), nI_clamp ht, nI_clamp hu] at hQ
  have nx : h x ≠ none := fun z => by have := C.1; rw [z] at this; cases this
  have nd : h hd ≠ none := fun z => by have := C.2.1; rw [z] at this; cases this
  repeat (first | (refine hP _ _ _ _ _ _ ?_; conv => whnf) | (refine ⟨fun q => absurd q (by decide), fun _ => ?_⟩) | (refine ⟨fun _ => ?_, fun q => absurd (by decide) q⟩) | (refine ac_get C.1 ?_; conv => whnf) | (refine ⟨_, C.1, Nat.le_of_ble_eq_true rfl, Nat.le_of_ble_eq_true rfl, Nat.le_of_ble_eq_true rfl, ?_⟩) | (refine ⟨Nat.le_of_ble_eq_true rfl, Nat.le_of_ble_eq_true rfl, Nat.le_of_ble_eq_true rfl, ?_⟩))
  refine ⟨Nat.le_of_ble_eq_true rfl, Nat.le_of_ble_eq_true rfl, fun q hq => ?_⟩
  repeat (first | (refine hP _ _ _ _ _ _ ?_; conv => whnf) | (refine ⟨fun q => absurd q (by decide), fun _ => ?_⟩) | (refine ⟨fun _ => ?_, fun q => absurd (by decide) q⟩) | (refine ac_get C.1 ?_; conv => whnf) | (refine ⟨_, C.1, Nat.le_of_ble_eq_true rfl, Nat.le_of_ble_eq_true rfl, Nat.le_of_ble_eq_true rfl, ?_⟩) | (refine ⟨Nat.le_of_ble_eq_true rfl, Nat.le_of_ble_eq_true rfl, Nat.le_of_ble_eq_true rfl, ?_⟩))
  refine sp_X0_init ac_hsE ht6 hu4 (fun h' s1 hs1 e1 e2 e2' e3 => ?_)
  have n1 : ∀ j, j ≤ t → s1 + j ≠ q := fun j hj z => by have := hs1 j hj; rw [z, ac_hsE] at this; cases this
  have hs2 : ∀ j, j ≤ t → h (s1 + j) = none := fun j hj => (ac_hsN (n1 j hj)).symm.trans (hs1 j hj)
  have ext : ∀ b, h b ≠ none → h' b = h b := fun b nb => by
    rw [e3 b (fun z => nb (by rw [z]; exact hq)) ?_]
    · exact ac_hsX hq b nb
    · rcases Nat.lt_or_ge b s1 with c | c
      · exact Or.inl c
      · rcases Nat.lt_or_ge (s1 + t) b with c2 | c2
        · exact Or.inr c2
        · exact absurd (hs2 (b - s1) (by omega)) (by rw [show s1 + (b - s1) = b by omega]; exact nb)
  repeat (first | (refine hP _ _ _ _ _ _ ?_; conv => whnf) | (refine ⟨fun q => absurd q (by decide), fun _ => ?_⟩) | (refine ⟨fun _ => ?_, fun q => absurd (by decide) q⟩) | (refine ac_get C.1 ?_; conv => whnf) | (refine ⟨_, C.1, Nat.le_of_ble_eq_true rfl, Nat.le_of_ble_eq_true rfl, Nat.le_of_ble_eq_true rfl, ?_⟩) | (refine ⟨Nat.le_of_ble_eq_true rfl, Nat.le_of_ble_eq_true rfl, Nat.le_of_ble_eq_true rfl, ?_⟩))
  refine ⟨_, (ext x nx).trans C.1, Nat.le_of_ble_eq_true rfl, Nat.le_of_ble_eq_true rfl, Nat.le_of_ble_eq_true rfl, ?_⟩
  refine c_hold ((ext x nx).trans C.1) ((ext hd nd).trans C.2.1) e1 (fun _ X => X) hk (fun h2 u1 u2 u3 => ?_)
  obtain ⟨C', F'⟩ := c_add C W ext u1 u2 u3 (c_newG (r := k) W ht6 hu4 hq hs2 e1 e2 e2') (wf_g W hm ht6 hu4) (fun i hi => (ag_gr hi).1) rfl rfl
  repeat (first | (refine hP _ _ _ _ _ _ ?_; conv => whnf) | (refine ⟨fun q => absurd q (by decide), fun _ => ?_⟩) | (refine ⟨fun _ => ?_, fun q => absurd (by decide) q⟩) | (refine ac_get C.1 ?_; conv => whnf) | (refine ⟨_, C.1, Nat.le_of_ble_eq_true rfl, Nat.le_of_ble_eq_true rfl, Nat.le_of_ble_eq_true rfl, ?_⟩) | (refine ⟨Nat.le_of_ble_eq_true rfl, Nat.le_of_ble_eq_true rfl, Nat.le_of_ble_eq_true rfl, ?_⟩))
  exact ⟨rfl, hQ _ ⟨_, _, _, _, C'⟩ F', by decide, by decide⟩
theorem C_window (C : c_ch h Z x ad ow hd hf S) (W : m_wf S) (hm : m_mk S < 512) {r b o : Int32} (hQ : m_app (fun x' a S' => ∀ h', c_CH h' Z x S' → c_fz Z h h' → Q (m_out x' (some (.int a))) h') (f_window S r b o)) : T_X5_window [.ref x, .int r, .int b, .int o] h Q := by
  have K0 : c_CH h Z x S := ⟨_, _, _, _, C⟩
  have F0 : c_fz Z h h := fun _ _ => rfl
  unfold f_window at hQ
  (intro P hP; conv => whnf)
  repeat (first | (refine hP _ _ _ _ _ _ ?_; conv => whnf) | (refine ⟨fun q => absurd q (by decide), fun _ => ?_⟩) | (refine ⟨fun _ => ?_, fun q => absurd (by decide) q⟩) | (refine ac_get C.1 ?_; conv => whnf) | (refine ⟨_, C.1, Nat.le_of_ble_eq_true rfl, Nat.le_of_ble_eq_true rfl, Nat.le_of_ble_eq_true rfl, ?_⟩) | (refine ⟨Nat.le_of_ble_eq_true rfl, Nat.le_of_ble_eq_true rfl, Nat.le_of_ble_eq_true rfl, ?_⟩))
  refine c_rr (fun b => ?_) (fun k hk er => ?_)
  · rw [if_pos (Or.inl b)] at hQ
    refine ac_koX (by decide) ?_
    exact hQ _ K0 F0
  subst er
  repeat (first | (refine hP _ _ _ _ _ _ ?_; conv => whnf) | (refine ⟨fun q => absurd q (by decide), fun _ => ?_⟩) | (refine ⟨fun _ => ?_, fun q => absurd (by decide) q⟩) | (refine ac_get C.1 ?_; conv => whnf) | (refine ⟨_, C.1, Nat.le_of_ble_eq_true rfl, Nat.le_of_ble_eq_true rfl, Nat.le_of_ble_eq_true rfl, ?_⟩) | (refine ⟨Nat.le_of_ble_eq_true rfl, Nat.le_of_ble_eq_true rfl, Nat.le_of_ble_eq_true rfl, ?_⟩))
  refine c_rr (fun b => ?_) (fun t ht er => ?_)
  · rw [if_pos (Or.inr b)] at hQ
    refine ac_koX (by decide) ?_
    exact hQ _ K0 F0
  subst er
  rw [if_neg (fun z => z.elim (m_badG (by decide) hk) (m_badG (by decide) ht)), nI_clamp (by omega), nI_clamp (by omega)] at hQ
  repeat (first | (refine hP _ _ _ _ _ _ ?_; conv => whnf) | (refine ⟨fun q => absurd q (by decide), fun _ => ?_⟩) | (refine ⟨fun _ => ?_, fun q => absurd (by decide) q⟩) | (refine ac_get C.1 ?_; conv => whnf) | (refine ⟨_, C.1, Nat.le_of_ble_eq_true rfl, Nat.le_of_ble_eq_true rfl, Nat.le_of_ble_eq_true rfl, ?_⟩) | (refine ⟨Nat.le_of_ble_eq_true rfl, Nat.le_of_ble_eq_true rfl, Nat.le_of_ble_eq_true rfl, ?_⟩))
  refine c_itemIn C ht (fun e => ?_) (fun i e => ?_)
  · rw [e] at hQ
    refine ac_koX (by decide) ?_
    exact hQ _ K0 F0
  rw [e] at hQ
  replace hQ : m_app _ (i_window S k o i) := hQ
  unfold i_window at hQ
  have hi := W.2.1 t i ht e
  have hdp := (W.2.2 i hi).2.2.1
  repeat (first | (refine hP _ _ _ _ _ _ ?_; conv => whnf) | (refine ⟨fun q => absurd q (by decide), fun _ => ?_⟩) | (refine ⟨fun _ => ?_, fun q => absurd (by decide) q⟩) | (refine ac_get C.1 ?_; conv => whnf) | (refine ⟨_, C.1, Nat.le_of_ble_eq_true rfl, Nat.le_of_ble_eq_true rfl, Nat.le_of_ble_eq_true rfl, ?_⟩) | (refine ⟨Nat.le_of_ble_eq_true rfl, Nat.le_of_ble_eq_true rfl, Nat.le_of_ble_eq_true rfl, ?_⟩))
  by_cases n9 : m_kd S i = 9 ∨ m_kd S i = 10
  · rw [if_pos n9] at hQ
    refine c_groundN C W hi (Nat.le_of_ble_eq_true rfl) (Nat.le_of_ble_eq_true rfl) (Nat.le_of_ble_eq_true rfl) n9 ?_
    repeat (first | (refine hP _ _ _ _ _ _ ?_; conv => whnf) | (refine ⟨fun q => absurd q (by decide), fun _ => ?_⟩) | (refine ⟨fun _ => ?_, fun q => absurd (by decide) q⟩) | (refine ac_get C.1 ?_; conv => whnf) | (refine ⟨_, C.1, Nat.le_of_ble_eq_true rfl, Nat.le_of_ble_eq_true rfl, Nat.le_of_ble_eq_true rfl, ?_⟩) | (refine ⟨Nat.le_of_ble_eq_true rfl, Nat.le_of_ble_eq_true rfl, Nat.le_of_ble_eq_true rfl, ?_⟩))
    refine sp_requireSupported (fun z => absurd rfl z) (fun _ => ?_)
    refine ac_koX (by decide) ?_
    exact hQ _ K0 F0
  rw [if_neg n9] at hQ
  have n9' : m_kd S i ≠ 9 := fun z => n9 (Or.inl z)
  have n10' : m_kd S i ≠ 10 := fun z => n9 (Or.inr z)
  refine c_groundU C W hi (Nat.le_of_ble_eq_true rfl) (Nat.le_of_ble_eq_true rfl) (Nat.le_of_ble_eq_true rfl) n9' n10' ?_
  repeat (first | (refine hP _ _ _ _ _ _ ?_; conv => whnf) | (refine ⟨fun q => absurd q (by decide), fun _ => ?_⟩) | (refine ⟨fun _ => ?_, fun q => absurd (by decide) q⟩) | (refine ac_get C.1 ?_; conv => whnf) | (refine ⟨_, C.1, Nat.le_of_ble_eq_true rfl, Nat.le_of_ble_eq_true rfl, Nat.le_of_ble_eq_true rfl, ?_⟩) | (refine ⟨Nat.le_of_ble_eq_true rfl, Nat.le_of_ble_eq_true rfl, Nat.le_of_ble_eq_true rfl, ?_⟩))
  refine sp_requireSupported (fun _ => ?_) (fun z => absurd z (by decide))
  repeat (first | (refine hP _ _ _ _ _ _ ?_; conv => whnf) | (refine ⟨fun q => absurd q (by decide), fun _ => ?_⟩) | (refine ⟨fun _ => ?_, fun q => absurd (by decide) q⟩) | (refine ac_get C.1 ?_; conv => whnf) | (refine ⟨_, C.1, Nat.le_of_ble_eq_true rfl, Nat.le_of_ble_eq_true rfl, Nat.le_of_ble_eq_true rfl, ?_⟩) | (refine ⟨Nat.le_of_ble_eq_true rfl, Nat.le_of_ble_eq_true rfl, Nat.le_of_ble_eq_true rfl, ?_⟩))
  refine c_windowsU C W hi (Nat.le_of_ble_eq_true rfl) (Nat.le_of_ble_eq_true rfl) (Nat.le_of_ble_eq_true rfl) ?_
  repeat (first | (refine hP _ _ _ _ _ _ ?_; conv => whnf) | (refine ⟨fun q => absurd q (by decide), fun _ => ?_⟩) | (refine ⟨fun _ => ?_, fun q => absurd (by decide) q⟩) | (refine ac_get C.1 ?_; conv => whnf) | (refine ⟨_, C.1, Nat.le_of_ble_eq_true rfl, Nat.le_of_ble_eq_true rfl, Nat.le_of_ble_eq_true rfl, ?_⟩) | (refine ⟨Nat.le_of_ble_eq_true rfl, Nat.le_of_ble_eq_true rfl, Nat.le_of_ble_eq_true rfl, ?_⟩))
  by_cases d6 : 6 ≤ m_dp S i
  · rw [if_pos d6] at hQ
    refine br_f (nI_ge (a := 5) (by omega) (by omega)) ?_
    repeat (first | (refine hP _ _ _ _ _ _ ?_; conv => whnf) | (refine ⟨fun q => absurd q (by decide), fun _ => ?_⟩) | (refine ⟨fun _ => ?_, fun q => absurd (by decide) q⟩) | (refine ac_get C.1 ?_; conv => whnf) | (refine ⟨_, C.1, Nat.le_of_ble_eq_true rfl, Nat.le_of_ble_eq_true rfl, Nat.le_of_ble_eq_true rfl, ?_⟩) | (refine ⟨Nat.le_of_ble_eq_true rfl, Nat.le_of_ble_eq_true rfl, Nat.le_of_ble_eq_true rfl, ?_⟩))
    exact ⟨hQ _ K0 F0, by decide, by decide, rfl⟩
  rw [if_neg d6] at hQ
  refine br_t (nI_le (b := 5) (by omega) (by decide)) ?_
  have nx : h x ≠ none := fun z => by have := C.1; rw [z] at this; cases this
  have nd : h hd ≠ none := fun z => by have := C.2.1; rw [z] at this; cases this
  repeat (first | (refine hP _ _ _ _ _ _ ?_; conv => whnf) | (refine ⟨fun q => absurd q (by decide), fun _ => ?_⟩) | (refine ⟨fun _ => ?_, fun q => absurd (by decide) q⟩) | (refine ac_get C.1 ?_; conv => whnf) | (refine ⟨_, C.1, Nat.le_of_ble_eq_true rfl, Nat.le_of_ble_eq_true rfl, Nat.le_of_ble_eq_true rfl, ?_⟩) | (refine ⟨Nat.le_of_ble_eq_true rfl, Nat.le_of_ble_eq_true rfl, Nat.le_of_ble_eq_true rfl, ?_⟩))
  refine c_shiftU C W hi (Nat.le_of_ble_eq_true rfl) (Nat.le_of_ble_eq_true rfl) (Nat.le_of_ble_eq_true rfl) ?_
  repeat (first | (refine hP _ _ _ _ _ _ ?_; conv => whnf) | (refine ⟨fun q => absurd q (by decide), fun _ => ?_⟩) | (refine ⟨fun _ => ?_, fun q => absurd (by decide) q⟩) | (refine ac_get C.1 ?_; conv => whnf) | (refine ⟨_, C.1, Nat.le_of_ble_eq_true rfl, Nat.le_of_ble_eq_true rfl, Nat.le_of_ble_eq_true rfl, ?_⟩) | (refine ⟨Nat.le_of_ble_eq_true rfl, Nat.le_of_ble_eq_true rfl, Nat.le_of_ble_eq_true rfl, ?_⟩))
  refine ⟨Nat.le_of_ble_eq_true rfl, Nat.le_of_ble_eq_true rfl, fun q hq => ?_⟩
  have C2 := c_ext C W (ac_hsX (e := .inl (7, ac_fr 7)) hq)
  repeat (first | (refine hP _ _ _ _ _ _ ?_; conv => whnf) | (refine ⟨fun q => absurd q (by decide), fun _ => ?_⟩) | (refine ⟨fun _ => ?_, fun q => absurd (by decide) q⟩) | (refine ac_get C.1 ?_; conv => whnf) | (refine ⟨_, C.1, Nat.le_of_ble_eq_true rfl, Nat.le_of_ble_eq_true rfl, Nat.le_of_ble_eq_true rfl, ?_⟩) | (refine ⟨Nat.le_of_ble_eq_true rfl, Nat.le_of_ble_eq_true rfl, Nat.le_of_ble_eq_true rfl, ?_⟩))
  refine c_groundU C2 W hi (Nat.le_of_ble_eq_true rfl) (Nat.le_of_ble_eq_true rfl) (Nat.le_of_ble_eq_true rfl) n9' n10' ?_
  repeat (first | (refine hP _ _ _ _ _ _ ?_; conv => whnf) | (refine ⟨fun q => absurd q (by decide), fun _ => ?_⟩) | (refine ⟨fun _ => ?_, fun q => absurd (by decide) q⟩) | (refine ac_get C.1 ?_; conv => whnf) | (refine ⟨_, C.1, Nat.le_of_ble_eq_true rfl, Nat.le_of_ble_eq_true rfl, Nat.le_of_ble_eq_true rfl, ?_⟩) | (refine ⟨Nat.le_of_ble_eq_true rfl, Nat.le_of_ble_eq_true rfl, Nat.le_of_ble_eq_true rfl, ?_⟩))
  refine c_windowsU C2 W hi (Nat.le_of_ble_eq_true rfl) (Nat.le_of_ble_eq_true rfl) (Nat.le_of_ble_eq_true rfl) ?_
  repeat (first | (refine hP _ _ _ _ _ _ ?_; conv => whnf) | (refine ⟨fun q => absurd q (by decide), fun _ => ?_⟩) | (refine ⟨fun _ => ?_, fun q => absurd (by decide) q⟩) | (refine ac_get C.1 ?_; conv => whnf) | (refine ⟨_, C.1, Nat.le_of_ble_eq_true rfl, Nat.le_of_ble_eq_true rfl, Nat.le_of_ble_eq_true rfl, ?_⟩) | (refine ⟨Nat.le_of_ble_eq_true rfl, Nat.le_of_ble_eq_true rfl, Nat.le_of_ble_eq_true rfl, ?_⟩))
  refine sp_X4_init ac_hsE (fun h' e1 e3 => ?_)
  have ext : ∀ b, h b ≠ none → h' b = h b := fun b nb => (e3 b (fun z => nb (by rw [z]; exact hq))).trans (ac_hsX hq b nb)
  have e1' : h' q = some (.inl (7, [.ref (ad (m_gr S i)), .int (m_sh S i + o), .int (nI (m_dp S i + 1))])) := by
    rw [← nI_1]
    exact e1
  repeat (first | (refine hP _ _ _ _ _ _ ?_; conv => whnf) | (refine ⟨fun q => absurd q (by decide), fun _ => ?_⟩) | (refine ⟨fun _ => ?_, fun q => absurd (by decide) q⟩) | (refine ac_get C.1 ?_; conv => whnf) | (refine ⟨_, C.1, Nat.le_of_ble_eq_true rfl, Nat.le_of_ble_eq_true rfl, Nat.le_of_ble_eq_true rfl, ?_⟩) | (refine ⟨Nat.le_of_ble_eq_true rfl, Nat.le_of_ble_eq_true rfl, Nat.le_of_ble_eq_true rfl, ?_⟩))
  refine ⟨_, (ext x nx).trans C.1, Nat.le_of_ble_eq_true rfl, Nat.le_of_ble_eq_true rfl, Nat.le_of_ble_eq_true rfl, ?_⟩
  refine c_hold ((ext x nx).trans C.1) ((ext hd nd).trans C.2.1) e1 (fun _ X => X) hk (fun h2 u1 u2 u3 => ?_)
  obtain ⟨C', F'⟩ := c_add C W ext u1 u2 u3 (c_newW (r := k) (o := o) W hi hq e1') (wf_w W hm hi n9' n10' (by omega)) (fun i hi => (ag_wi hi).1) rfl rfl
  repeat (first | (refine hP _ _ _ _ _ _ ?_; conv => whnf) | (refine ⟨fun q => absurd q (by decide), fun _ => ?_⟩) | (refine ⟨fun _ => ?_, fun q => absurd (by decide) q⟩) | (refine ac_get C.1 ?_; conv => whnf) | (refine ⟨_, C.1, Nat.le_of_ble_eq_true rfl, Nat.le_of_ble_eq_true rfl, Nat.le_of_ble_eq_true rfl, ?_⟩) | (refine ⟨Nat.le_of_ble_eq_true rfl, Nat.le_of_ble_eq_true rfl, Nat.le_of_ble_eq_true rfl, ?_⟩))
  exact ⟨rfl, hQ _ ⟨_, _, _, _, C'⟩ F', by decide, by decide⟩
end CLD2
