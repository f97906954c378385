/-! ===== the class: records, combine, move ===== -/
section CLH
variable {h : ac_H} {Z : Nat → Prop} {x : Nat} {ad : Nat → Nat} {ow : Nat → Option Nat} {hd : Nat} {hf : Nat → Option Nat} {S : m_S} {Q : ac_Q}
theorem c_setR (C : c_ch h Z x ad ow hd hf S) (W : m_wf S) {i p : Nat} {w : Int64} {h' : ac_H} (hi : i < m_mk S) (k10 : m_kd S i = 10) (hp : p < 2) (e1 : h' (ad i) = some (.inl (5, [.long (vp_updL (m_st S) (24 * i + p) w (24 * i)), va_rf (c_oa ad (m_dl (vp_updL (m_st S) (24 * i + p) w (24 * i + 1))))]))) (e2 : ∀ b, b ≠ ad i → h' b = h b) : c_ch h' Z x ad ow hd hf (m_sst S (24 * i + p) w) ∧ c_fz Z h h' := by
  have A := C.2.2.2.1 i hi
  refine c_mod (g := i) C W (fun _ _ => rfl) (fun b _ o => e2 b (fun z => o (by rw [z]; exact A.1))) ?_ (fun j hj n => ?_) rfl rfl
  · refine ⟨A.1, fun z => ?_, fun z => ?_, fun z => ?_, fun z => ?_, fun _ => e1, fun z => ?_⟩
    · exact absurd (show m_kd S i ≤ 8 from z) (by omega)
    · exact absurd (show m_kd S i ≤ 7 from z) (by omega)
    · exact absurd (show m_kd S i = 8 from z) (by omega)
    · exact absurd (show m_kd S i = 9 from z) (by omega)
    · exact absurd (show m_kd S i = 11 from z) (by omega)
  · exact ⟨rfl, rfl, rfl, rfl, rfl, rfl, fun _ _ => rfl, fun e he => vp_updN (by omega)⟩
theorem C_link (C : c_ch h Z x ad ow hd hf S) (W : m_wf S) {r t : Int32} (hQ : m_app (fun x' _ S' => ∀ h', c_CH h' Z x S' → c_fz Z h h' → Q (m_out x' none) h') (f_link S r t)) : T_X5_link [.ref x, .int r, .int t] h Q := by
  have K0 : c_CH h Z x S := ⟨_, _, _, _, C⟩
  have F0 : c_fz Z h h := fun _ _ => rfl
  unfold f_link at hQ
  (intro P hP; conv => whnf)
  repeat (first | (refine hP _ _ _ _ _ _ ?_; conv => whnf) | (refine ⟨fun q => absurd q (by decide), fun _ => ?_⟩) | (refine ⟨fun _ => ?_, fun q => absurd (by decide) q⟩) | (refine ac_get C.1 ?_; conv => whnf) | (refine ⟨_, C.1, Nat.le_of_ble_eq_true rfl, Nat.le_of_ble_eq_true rfl, Nat.le_of_ble_eq_true rfl, ?_⟩) | (refine ⟨Nat.le_of_ble_eq_true rfl, Nat.le_of_ble_eq_true rfl, Nat.le_of_ble_eq_true rfl, ?_⟩))
  refine c_rr (fun b => ?_) (fun k hk er => ?_)
  · rw [if_pos (Or.inl b)] at hQ
    refine ac_koX (by decide) ?_
    exact hQ _ K0 F0
  subst er
  repeat (first | (refine hP _ _ _ _ _ _ ?_; conv => whnf) | (refine ⟨fun q => absurd q (by decide), fun _ => ?_⟩) | (refine ⟨fun _ => ?_, fun q => absurd (by decide) q⟩) | (refine ac_get C.1 ?_; conv => whnf) | (refine ⟨_, C.1, Nat.le_of_ble_eq_true rfl, Nat.le_of_ble_eq_true rfl, Nat.le_of_ble_eq_true rfl, ?_⟩) | (refine ⟨Nat.le_of_ble_eq_true rfl, Nat.le_of_ble_eq_true rfl, Nat.le_of_ble_eq_true rfl, ?_⟩))
  refine c_rr (fun b => ?_) (fun t ht er => ?_)
  · rw [if_pos (Or.inr b)] at hQ
    refine ac_koX (by decide) ?_
    exact hQ _ K0 F0
  subst er
  rw [if_neg (fun z => z.elim (m_badG (by decide) hk) (m_badG (by decide) ht)), nI_clamp (by omega), nI_clamp (by omega)] at hQ
  repeat (first | (refine hP _ _ _ _ _ _ ?_; conv => whnf) | (refine ⟨fun q => absurd q (by decide), fun _ => ?_⟩) | (refine ⟨fun _ => ?_, fun q => absurd (by decide) q⟩) | (refine ac_get C.1 ?_; conv => whnf) | (refine ⟨_, C.1, Nat.le_of_ble_eq_true rfl, Nat.le_of_ble_eq_true rfl, Nat.le_of_ble_eq_true rfl, ?_⟩) | (refine ⟨Nat.le_of_ble_eq_true rfl, Nat.le_of_ble_eq_true rfl, Nat.le_of_ble_eq_true rfl, ?_⟩))
  have T : m_nr S (m_rg S t) = true → P 14 [some (.ref x), some (.int (nI k)), some (.int (nI t)), some (va_rf (c_oa ad (m_rg S t)))] [] h 3 18 := by
    intro hn
    rw [if_pos hn] at hQ
    unfold m_rc at hQ
    repeat (first | (refine hP _ _ _ _ _ _ ?_; conv => whnf) | (refine ⟨fun q => absurd q (by decide), fun _ => ?_⟩) | (refine ⟨fun _ => ?_, fun q => absurd (by decide) q⟩) | (refine ac_get C.1 ?_; conv => whnf) | (refine ⟨_, C.1, Nat.le_of_ble_eq_true rfl, Nat.le_of_ble_eq_true rfl, Nat.le_of_ble_eq_true rfl, ?_⟩) | (refine ⟨Nat.le_of_ble_eq_true rfl, Nat.le_of_ble_eq_true rfl, Nat.le_of_ble_eq_true rfl, ?_⟩))
    refine c_recIn C W hk (fun e => ?_) (fun i e q => ?_) (fun i e q => ?_)
    · rw [e] at hQ
      refine ac_koX (by decide) ?_
      exact hQ _ K0 F0
    · rw [e] at hQ
      replace hQ : m_app _ (if m_kd S i = 10 then (7, (), m_sst S (24 * i + 1) (m_lv (m_rg S t))) else (2, (), S)) := hQ
      rw [if_neg q] at hQ
      refine ac_koX (by decide) ?_
      exact hQ _ K0 F0
    · rw [e] at hQ
      replace hQ : m_app _ (if m_kd S i = 10 then (7, (), m_sst S (24 * i + 1) (m_lv (m_rg S t))) else (2, (), S)) := hQ
      rw [if_pos q] at hQ
      have hi := W.2.1 k i hk e
      have e1 := (C.2.2.2.1 i hi).2.2.2.2.2.1 q
      have D := fun h' e1 e2 => c_setR (p := 1) (w := m_lv (m_rg S t)) (h' := h') C W hi q (by omega) e1 e2
      rw [vp_updN (by omega), vp_updE, m_dlv (m_wr W ht)] at D
      cases e3 : m_rg S t with
      | none =>
        rw [e3] at D hQ
        repeat (first | (refine hP _ _ _ _ _ _ ?_; conv => whnf) | (refine ⟨fun q => absurd q (by decide), fun _ => ?_⟩) | (refine ⟨fun _ => ?_, fun q => absurd (by decide) q⟩) | (refine ac_get C.1 ?_; conv => whnf) | (refine ⟨_, C.1, Nat.le_of_ble_eq_true rfl, Nat.le_of_ble_eq_true rfl, Nat.le_of_ble_eq_true rfl, ?_⟩) | (refine ⟨Nat.le_of_ble_eq_true rfl, Nat.le_of_ble_eq_true rfl, Nat.le_of_ble_eq_true rfl, ?_⟩))
        refine ⟨_, e1, ?_⟩
        (conv => whnf)
        obtain ⟨C', F'⟩ := D (ac_hs h (ad i) (.inl (5, [.long (m_st S (24 * i)), .null]))) ac_hsE (fun b hb => ac_hsN hb)
        repeat (first | (refine hP _ _ _ _ _ _ ?_; conv => whnf) | (refine ⟨fun q => absurd q (by decide), fun _ => ?_⟩) | (refine ⟨fun _ => ?_, fun q => absurd (by decide) q⟩) | (refine ac_get C.1 ?_; conv => whnf) | (refine ⟨_, C.1, Nat.le_of_ble_eq_true rfl, Nat.le_of_ble_eq_true rfl, Nat.le_of_ble_eq_true rfl, ?_⟩) | (refine ⟨Nat.le_of_ble_eq_true rfl, Nat.le_of_ble_eq_true rfl, Nat.le_of_ble_eq_true rfl, ?_⟩))
        exact ⟨rfl, hQ _ ⟨_, _, _, _, C'⟩ F', by decide, by decide⟩
      | some j =>
        rw [e3] at D hQ
        repeat (first | (refine hP _ _ _ _ _ _ ?_; conv => whnf) | (refine ⟨fun q => absurd q (by decide), fun _ => ?_⟩) | (refine ⟨fun _ => ?_, fun q => absurd (by decide) q⟩) | (refine ac_get C.1 ?_; conv => whnf) | (refine ⟨_, C.1, Nat.le_of_ble_eq_true rfl, Nat.le_of_ble_eq_true rfl, Nat.le_of_ble_eq_true rfl, ?_⟩) | (refine ⟨Nat.le_of_ble_eq_true rfl, Nat.le_of_ble_eq_true rfl, Nat.le_of_ble_eq_true rfl, ?_⟩))
        refine ⟨_, e1, ?_⟩
        (conv => whnf)
        obtain ⟨C', F'⟩ := D (ac_hs h (ad i) (.inl (5, [.long (m_st S (24 * i)), .ref (ad j)]))) ac_hsE (fun b hb => ac_hsN hb)
        repeat (first | (refine hP _ _ _ _ _ _ ?_; conv => whnf) | (refine ⟨fun q => absurd q (by decide), fun _ => ?_⟩) | (refine ⟨fun _ => ?_, fun q => absurd (by decide) q⟩) | (refine ac_get C.1 ?_; conv => whnf) | (refine ⟨_, C.1, Nat.le_of_ble_eq_true rfl, Nat.le_of_ble_eq_true rfl, Nat.le_of_ble_eq_true rfl, ?_⟩) | (refine ⟨Nat.le_of_ble_eq_true rfl, Nat.le_of_ble_eq_true rfl, Nat.le_of_ble_eq_true rfl, ?_⟩))
        exact ⟨rfl, hQ _ ⟨_, _, _, _, C'⟩ F', by decide, by decide⟩
  refine c_recN C W ht (fun e => ?_) (fun i e q => ?_) (fun i e q => ?_)
  · rw [e] at T
    iterate 1 (refine hP _ _ _ _ _ _ ?_; conv => whnf)
    exact T rfl
  · rw [e, if_neg (show ¬ m_nr S (some i) = true from fun z => q (by simpa [m_nr] using z))] at hQ
    refine ac_koX (by decide) ?_
    exact hQ _ K0 F0
  · rw [e] at T
    iterate 1 (refine hP _ _ _ _ _ _ ?_; conv => whnf)
    exact T (by show (m_kd S i == 10) = true; rw [q]; rfl)
theorem C_follow (C : c_ch h Z x ad ow hd hf S) (W : m_wf S) {t r : Int32} (hQ : m_app (fun x' a S' => ∀ h', c_CH h' Z x S' → c_fz Z h h' → Q (m_out x' (some (.int a))) h') (f_follow S t r)) : T_X5_follow [.ref x, .int t, .int r] h Q := by
  have K0 : c_CH h Z x S := ⟨_, _, _, _, C⟩
  have F0 : c_fz Z h h := fun _ _ => rfl
  unfold f_follow m_rc at hQ
  (intro P hP; conv => whnf)
  repeat (first | (refine hP _ _ _ _ _ _ ?_; conv => whnf) | (refine ⟨fun q => absurd q (by decide), fun _ => ?_⟩) | (refine ⟨fun _ => ?_, fun q => absurd (by decide) q⟩) | (refine ac_get C.1 ?_; conv => whnf) | (refine ⟨_, C.1, Nat.le_of_ble_eq_true rfl, Nat.le_of_ble_eq_true rfl, Nat.le_of_ble_eq_true rfl, ?_⟩) | (refine ⟨Nat.le_of_ble_eq_true rfl, Nat.le_of_ble_eq_true rfl, Nat.le_of_ble_eq_true rfl, ?_⟩))
  refine c_rr (fun b => ?_) (fun t ht er => ?_)
  · rw [if_pos (Or.inl b)] at hQ
    refine ac_koX (by decide) ?_
    exact hQ _ K0 F0
  subst er
  repeat (first | (refine hP _ _ _ _ _ _ ?_; conv => whnf) | (refine ⟨fun q => absurd q (by decide), fun _ => ?_⟩) | (refine ⟨fun _ => ?_, fun q => absurd (by decide) q⟩) | (refine ac_get C.1 ?_; conv => whnf) | (refine ⟨_, C.1, Nat.le_of_ble_eq_true rfl, Nat.le_of_ble_eq_true rfl, Nat.le_of_ble_eq_true rfl, ?_⟩) | (refine ⟨Nat.le_of_ble_eq_true rfl, Nat.le_of_ble_eq_true rfl, Nat.le_of_ble_eq_true rfl, ?_⟩))
  refine c_rr (fun b => ?_) (fun k hk er => ?_)
  · rw [if_pos (Or.inr b)] at hQ
    refine ac_koX (by decide) ?_
    exact hQ _ K0 F0
  subst er
  rw [if_neg (fun z => z.elim (m_badG (by decide) ht) (m_badG (by decide) hk)), nI_clamp (by omega), nI_clamp (by omega)] at hQ
  repeat (first | (refine hP _ _ _ _ _ _ ?_; conv => whnf) | (refine ⟨fun q => absurd q (by decide), fun _ => ?_⟩) | (refine ⟨fun _ => ?_, fun q => absurd (by decide) q⟩) | (refine ac_get C.1 ?_; conv => whnf) | (refine ⟨_, C.1, Nat.le_of_ble_eq_true rfl, Nat.le_of_ble_eq_true rfl, Nat.le_of_ble_eq_true rfl, ?_⟩) | (refine ⟨Nat.le_of_ble_eq_true rfl, Nat.le_of_ble_eq_true rfl, Nat.le_of_ble_eq_true rfl, ?_⟩))
  refine c_recIn C W hk (fun e => ?_) (fun i e q => ?_) (fun i e q => ?_)
  · rw [e] at hQ
    refine ac_koX (by decide) ?_
    exact hQ _ K0 F0
  · rw [e] at hQ
    replace hQ : m_app _ (if m_kd S i = 10 then (7, m_no (m_dl (m_st S (24 * i + 1))), m_srg S t (m_dl (m_st S (24 * i + 1)))) else (2, 0, S)) := hQ
    rw [if_neg q] at hQ
    refine ac_koX (by decide) ?_
    exact hQ _ K0 F0
  · rw [e] at hQ
    replace hQ : m_app _ (if m_kd S i = 10 then (7, m_no (m_dl (m_st S (24 * i + 1))), m_srg S t (m_dl (m_st S (24 * i + 1)))) else (2, 0, S)) := hQ
    rw [if_pos q] at hQ
    have hi := W.2.1 k i hk e
    have e1 := (C.2.2.2.1 i hi).2.2.2.2.2.1 q
    have hb := ((W.2.2 _ hi).2.2.2.2.2.2.2.1 q).1.2
    repeat (first | (refine hP _ _ _ _ _ _ ?_; conv => whnf) | (refine ⟨fun q => absurd q (by decide), fun _ => ?_⟩) | (refine ⟨fun _ => ?_, fun q => absurd (by decide) q⟩) | (refine ac_get C.1 ?_; conv => whnf) | (refine ⟨_, C.1, Nat.le_of_ble_eq_true rfl, Nat.le_of_ble_eq_true rfl, Nat.le_of_ble_eq_true rfl, ?_⟩) | (refine ⟨Nat.le_of_ble_eq_true rfl, Nat.le_of_ble_eq_true rfl, Nat.le_of_ble_eq_true rfl, ?_⟩))
    refine ac_get e1 ?_
    (conv => whnf)
    generalize m_dl (m_st S (24 * i + 1)) = o at hb hQ ⊢
    cases o with
    | none =>
      repeat (first | (refine hP _ _ _ _ _ _ ?_; conv => whnf) | (refine ⟨fun q => absurd q (by decide), fun _ => ?_⟩) | (refine ⟨fun _ => ?_, fun q => absurd (by decide) q⟩) | (refine ac_get C.1 ?_; conv => whnf) | (refine ⟨_, C.1, Nat.le_of_ble_eq_true rfl, Nat.le_of_ble_eq_true rfl, Nat.le_of_ble_eq_true rfl, ?_⟩) | (refine ⟨Nat.le_of_ble_eq_true rfl, Nat.le_of_ble_eq_true rfl, Nat.le_of_ble_eq_true rfl, ?_⟩))
      refine c_whN C W ht rfl (fun h' C' F' => ?_)
      repeat (first | (refine hP _ _ _ _ _ _ ?_; conv => whnf) | (refine ⟨fun q => absurd q (by decide), fun _ => ?_⟩) | (refine ⟨fun _ => ?_, fun q => absurd (by decide) q⟩) | (refine ac_get C.1 ?_; conv => whnf) | (refine ⟨_, C.1, Nat.le_of_ble_eq_true rfl, Nat.le_of_ble_eq_true rfl, Nat.le_of_ble_eq_true rfl, ?_⟩) | (refine ⟨Nat.le_of_ble_eq_true rfl, Nat.le_of_ble_eq_true rfl, Nat.le_of_ble_eq_true rfl, ?_⟩))
      exact ⟨rfl, Or.inr rfl, hQ _ ⟨_, _, _, _, C'⟩ F', by decide, by decide⟩
    | some j =>
      repeat (first | (refine hP _ _ _ _ _ _ ?_; conv => whnf) | (refine ⟨fun q => absurd q (by decide), fun _ => ?_⟩) | (refine ⟨fun _ => ?_, fun q => absurd (by decide) q⟩) | (refine ac_get C.1 ?_; conv => whnf) | (refine ⟨_, C.1, Nat.le_of_ble_eq_true rfl, Nat.le_of_ble_eq_true rfl, Nat.le_of_ble_eq_true rfl, ?_⟩) | (refine ⟨Nat.le_of_ble_eq_true rfl, Nat.le_of_ble_eq_true rfl, Nat.le_of_ble_eq_true rfl, ?_⟩))
      refine c_whR C W (hb j rfl) ht rfl (fun h' C' F' => ?_)
      repeat (first | (refine hP _ _ _ _ _ _ ?_; conv => whnf) | (refine ⟨fun q => absurd q (by decide), fun _ => ?_⟩) | (refine ⟨fun _ => ?_, fun q => absurd (by decide) q⟩) | (refine ac_get C.1 ?_; conv => whnf) | (refine ⟨_, C.1, Nat.le_of_ble_eq_true rfl, Nat.le_of_ble_eq_true rfl, Nat.le_of_ble_eq_true rfl, ?_⟩) | (refine ⟨Nat.le_of_ble_eq_true rfl, Nat.le_of_ble_eq_true rfl, Nat.le_of_ble_eq_true rfl, ?_⟩))
      exact ⟨rfl, Or.inl rfl, hQ _ ⟨_, _, _, _, C'⟩ F', by decide, by decide⟩
theorem C_exchange (C : c_ch h Z x ad ow hd hf S) (W : m_wf S) {r : Int32} {v : Int64} (hQ : m_app (fun x' a S' => ∀ h', c_CH h' Z x S' → c_fz Z h h' → Q (m_out x' (some (.long a))) h') (f_exchange S r v)) : T_X5_exchange [.ref x, .int r, .long v] h Q := by
  have K0 : c_CH h Z x S := ⟨_, _, _, _, C⟩
  have F0 : c_fz Z h h := fun _ _ => rfl
  unfold f_exchange m_rc at hQ
  (intro P hP; conv => whnf)
  repeat (first | (refine hP _ _ _ _ _ _ ?_; conv => whnf) | (refine ⟨fun q => absurd q (by decide), fun _ => ?_⟩) | (refine ⟨fun _ => ?_, fun q => absurd (by decide) q⟩) | (refine ac_get C.1 ?_; conv => whnf) | (refine ⟨_, C.1, Nat.le_of_ble_eq_true rfl, Nat.le_of_ble_eq_true rfl, Nat.le_of_ble_eq_true rfl, ?_⟩) | (refine ⟨Nat.le_of_ble_eq_true rfl, Nat.le_of_ble_eq_true rfl, Nat.le_of_ble_eq_true rfl, ?_⟩))
  refine c_rr (fun b => ?_) (fun k hk er => ?_)
  · rw [if_pos b] at hQ
    refine ac_koX (by decide) ?_
    exact hQ _ K0 F0
  subst er
  rw [if_neg (m_badG (by decide) hk), nI_clamp (by omega)] at hQ
  repeat (first | (refine hP _ _ _ _ _ _ ?_; conv => whnf) | (refine ⟨fun q => absurd q (by decide), fun _ => ?_⟩) | (refine ⟨fun _ => ?_, fun q => absurd (by decide) q⟩) | (refine ac_get C.1 ?_; conv => whnf) | (refine ⟨_, C.1, Nat.le_of_ble_eq_true rfl, Nat.le_of_ble_eq_true rfl, Nat.le_of_ble_eq_true rfl, ?_⟩) | (refine ⟨Nat.le_of_ble_eq_true rfl, Nat.le_of_ble_eq_true rfl, Nat.le_of_ble_eq_true rfl, ?_⟩))
  refine c_recIn C W hk (fun e => ?_) (fun i e q => ?_) (fun i e q => ?_)
  · rw [e] at hQ
    refine ac_koX (by decide) ?_
    exact hQ _ K0 F0
  · rw [e] at hQ
    replace hQ : m_app _ (if m_kd S i = 10 then (7, m_st S (24 * i), m_sst S (24 * i) v) else (2, 0, S)) := hQ
    rw [if_neg q] at hQ
    refine ac_koX (by decide) ?_
    exact hQ _ K0 F0
  · rw [e] at hQ
    replace hQ : m_app _ (if m_kd S i = 10 then (7, m_st S (24 * i), m_sst S (24 * i) v) else (2, 0, S)) := hQ
    rw [if_pos q] at hQ
    have hi := W.2.1 k i hk e
    have e1 := (C.2.2.2.1 i hi).2.2.2.2.2.1 q
    have D := fun h' e1 e2 => c_setR (p := 0) (w := v) (h' := h') C W hi q (by omega) e1 e2
    rw [Nat.add_zero, vp_updE, vp_updN (by omega)] at D
    repeat (first | (refine hP _ _ _ _ _ _ ?_; conv => whnf) | (refine ⟨fun q => absurd q (by decide), fun _ => ?_⟩) | (refine ⟨fun _ => ?_, fun q => absurd (by decide) q⟩) | (refine ac_get C.1 ?_; conv => whnf) | (refine ⟨_, C.1, Nat.le_of_ble_eq_true rfl, Nat.le_of_ble_eq_true rfl, Nat.le_of_ble_eq_true rfl, ?_⟩) | (refine ⟨Nat.le_of_ble_eq_true rfl, Nat.le_of_ble_eq_true rfl, Nat.le_of_ble_eq_true rfl, ?_⟩))
    refine ac_get e1 ?_
    (conv => whnf)
    repeat (first | (refine hP _ _ _ _ _ _ ?_; conv => whnf) | (refine ⟨fun q => absurd q (by decide), fun _ => ?_⟩) | (refine ⟨fun _ => ?_, fun q => absurd (by decide) q⟩) | (refine ac_get C.1 ?_; conv => whnf) | (refine ⟨_, C.1, Nat.le_of_ble_eq_true rfl, Nat.le_of_ble_eq_true rfl, Nat.le_of_ble_eq_true rfl, ?_⟩) | (refine ⟨Nat.le_of_ble_eq_true rfl, Nat.le_of_ble_eq_true rfl, Nat.le_of_ble_eq_true rfl, ?_⟩))
    refine ⟨_, e1, ?_⟩
    (conv => whnf)
    obtain ⟨C', F'⟩ := D (ac_hs h (ad i) (.inl (5, [.long v, va_rf (c_oa ad (m_dl (m_st S (24 * i + 1))))]))) ac_hsE (fun b hb => ac_hsN hb)
    repeat (first | (refine hP _ _ _ _ _ _ ?_; conv => whnf) | (refine ⟨fun q => absurd q (by decide), fun _ => ?_⟩) | (refine ⟨fun _ => ?_, fun q => absurd (by decide) q⟩) | (refine ac_get C.1 ?_; conv => whnf) | (refine ⟨_, C.1, Nat.le_of_ble_eq_true rfl, Nat.le_of_ble_eq_true rfl, Nat.le_of_ble_eq_true rfl, ?_⟩) | (refine ⟨Nat.le_of_ble_eq_true rfl, Nat.le_of_ble_eq_true rfl, Nat.le_of_ble_eq_true rfl, ?_⟩))
    exact ⟨rfl, hQ _ ⟨_, _, _, _, C'⟩ F', by decide, by decide⟩
theorem C_total (C : c_ch h Z x ad ow hd hf S) (W : m_wf S) {r : Int32} (hQ : m_app (fun x' a S' => ∀ h', c_CH h' Z x S' → c_fz Z h h' → Q (m_out x' (some (.long a))) h') (f_total S r)) : T_X5_total [.ref x, .int r] h Q := by
  have K0 : c_CH h Z x S := ⟨_, _, _, _, C⟩
  have F0 : c_fz Z h h := fun _ _ => rfl
  unfold f_total m_rc at hQ
  (intro P hP; conv => whnf)
  repeat (first | (refine hP _ _ _ _ _ _ ?_; conv => whnf) | (refine ⟨fun q => absurd q (by decide), fun _ => ?_⟩) | (refine ⟨fun _ => ?_, fun q => absurd (by decide) q⟩) | (refine ac_get C.1 ?_; conv => whnf) | (refine ⟨_, C.1, Nat.le_of_ble_eq_true rfl, Nat.le_of_ble_eq_true rfl, Nat.le_of_ble_eq_true rfl, ?_⟩) | (refine ⟨Nat.le_of_ble_eq_true rfl, Nat.le_of_ble_eq_true rfl, Nat.le_of_ble_eq_true rfl, ?_⟩))
  refine c_rr (fun b => ?_) (fun k hk er => ?_)
  · rw [if_pos b] at hQ
    refine ac_koX (by decide) ?_
    exact hQ _ K0 F0
  subst er
  rw [if_neg (m_badG (by decide) hk), nI_clamp (by omega)] at hQ
  repeat (first | (refine hP _ _ _ _ _ _ ?_; conv => whnf) | (refine ⟨fun q => absurd q (by decide), fun _ => ?_⟩) | (refine ⟨fun _ => ?_, fun q => absurd (by decide) q⟩) | (refine ac_get C.1 ?_; conv => whnf) | (refine ⟨_, C.1, Nat.le_of_ble_eq_true rfl, Nat.le_of_ble_eq_true rfl, Nat.le_of_ble_eq_true rfl, ?_⟩) | (refine ⟨Nat.le_of_ble_eq_true rfl, Nat.le_of_ble_eq_true rfl, Nat.le_of_ble_eq_true rfl, ?_⟩))
  refine c_recIn C W hk (fun e => ?_) (fun i e q => ?_) (fun i e q => ?_)
  · rw [e] at hQ
    refine ac_koX (by decide) ?_
    exact hQ _ K0 F0
  · rw [e] at hQ
    replace hQ : m_app _ (if m_kd S i = 10 then (7, m_tot S 20 (some i) 0, S) else (2, 0, S)) := hQ
    rw [if_neg q] at hQ
    refine ac_koX (by decide) ?_
    exact hQ _ K0 F0
  · rw [e] at hQ
    replace hQ : m_app _ (if m_kd S i = 10 then (7, m_tot S 20 (some i) 0, S) else (2, 0, S)) := hQ
    rw [if_pos q] at hQ
    have hi := W.2.1 k i hk e
    have L : ∀ d j o a, j + d = 20 → (∀ i, o = some i → i < m_mk S ∧ m_kd S i = 10) → Q (.inl (some (.long (m_tot S d o a)))) h → P 15 [some (.ref x), some (.int (nI k)), some (va_rf (c_oa ad o)), some (.long a), none, some (.int (nI j))] [] h 3 20 := by
      intro d
      induction d with
      | zero =>
        intro j o a ej ho hq
        have e20 : j = 20 := by omega
        subst e20
        repeat (first | (refine hP _ _ _ _ _ _ ?_; conv => whnf) | (refine ⟨fun q => absurd q (by decide), fun _ => ?_⟩) | (refine ⟨fun _ => ?_, fun q => absurd (by decide) q⟩) | (refine ac_get C.1 ?_; conv => whnf) | (refine ⟨_, C.1, Nat.le_of_ble_eq_true rfl, Nat.le_of_ble_eq_true rfl, Nat.le_of_ble_eq_true rfl, ?_⟩) | (refine ⟨Nat.le_of_ble_eq_true rfl, Nat.le_of_ble_eq_true rfl, Nat.le_of_ble_eq_true rfl, ?_⟩))
        exact ⟨rfl, hq, by decide, by decide⟩
      | succ d ih =>
        intro j o a ej ho hq
        repeat (first | (refine hP _ _ _ _ _ _ ?_; conv => whnf) | (refine ⟨fun q => absurd q (by decide), fun _ => ?_⟩) | (refine ⟨fun _ => ?_, fun q => absurd (by decide) q⟩) | (refine ac_get C.1 ?_; conv => whnf) | (refine ⟨_, C.1, Nat.le_of_ble_eq_true rfl, Nat.le_of_ble_eq_true rfl, Nat.le_of_ble_eq_true rfl, ?_⟩) | (refine ⟨Nat.le_of_ble_eq_true rfl, Nat.le_of_ble_eq_true rfl, Nat.le_of_ble_eq_true rfl, ?_⟩))
        refine br_f (nI_ge (b := 20) (by omega) (by decide)) ?_
        cases o with
        | none =>
          repeat (first | (refine hP _ _ _ _ _ _ ?_; conv => whnf) | (refine ⟨fun q => absurd q (by decide), fun _ => ?_⟩) | (refine ⟨fun _ => ?_, fun q => absurd (by decide) q⟩) | (refine ac_get C.1 ?_; conv => whnf) | (refine ⟨_, C.1, Nat.le_of_ble_eq_true rfl, Nat.le_of_ble_eq_true rfl, Nat.le_of_ble_eq_true rfl, ?_⟩) | (refine ⟨Nat.le_of_ble_eq_true rfl, Nat.le_of_ble_eq_true rfl, Nat.le_of_ble_eq_true rfl, ?_⟩))
          exact ⟨rfl, hq, by decide, by decide⟩
        | some i =>
          obtain ⟨hi, k10⟩ := ho i rfl
          obtain ⟨hL, hL2⟩ := (W.2.2 _ hi).2.2.2.2.2.2.2.1 k10
          have e1 := (C.2.2.2.1 i hi).2.2.2.2.2.1 k10
          repeat (first | (refine hP _ _ _ _ _ _ ?_; conv => whnf) | (refine ⟨fun q => absurd q (by decide), fun _ => ?_⟩) | (refine ⟨fun _ => ?_, fun q => absurd (by decide) q⟩) | (refine ac_get C.1 ?_; conv => whnf) | (refine ⟨_, C.1, Nat.le_of_ble_eq_true rfl, Nat.le_of_ble_eq_true rfl, Nat.le_of_ble_eq_true rfl, ?_⟩) | (refine ⟨Nat.le_of_ble_eq_true rfl, Nat.le_of_ble_eq_true rfl, Nat.le_of_ble_eq_true rfl, ?_⟩))
          refine ac_get e1 ?_
          (conv => whnf)
          repeat (first | (refine hP _ _ _ _ _ _ ?_; conv => whnf) | (refine ⟨fun q => absurd q (by decide), fun _ => ?_⟩) | (refine ⟨fun _ => ?_, fun q => absurd (by decide) q⟩) | (refine ac_get C.1 ?_; conv => whnf) | (refine ⟨_, C.1, Nat.le_of_ble_eq_true rfl, Nat.le_of_ble_eq_true rfl, Nat.le_of_ble_eq_true rfl, ?_⟩) | (refine ⟨Nat.le_of_ble_eq_true rfl, Nat.le_of_ble_eq_true rfl, Nat.le_of_ble_eq_true rfl, ?_⟩))
          refine ac_get e1 ?_
          (conv => whnf)
          have ih2 := ih (j + 1) _ (a + m_st S (24 * i)) (by omega) (fun i ei => ⟨hL.2 i ei, hL2 i ei⟩) hq
          rw [← nI_1] at ih2
          revert ih2
          generalize m_dl (m_st S (24 * i + 1)) = o2
          intro ih2
          cases o2 with
          | none =>
            iterate 3 (refine hP _ _ _ _ _ _ ?_; conv => whnf)
            exact ih2
          | some j2 =>
            iterate 3 (refine hP _ _ _ _ _ _ ?_; conv => whnf)
            exact ih2
    iterate 5 (refine hP _ _ _ _ _ _ ?_; conv => whnf)
    exact L 20 0 (some i) 0 rfl (fun j ej => by cases ej; exact ⟨hi, q⟩) (hQ _ K0 F0)
theorem C_combine (C : c_ch h Z x ad ow hd hf S) (W : m_wf S) {op r ix o at' : Int32} (hQ : m_app (fun x' a S' => ∀ h', c_CH h' Z x S' → c_fz Z h h' → Q (m_out x' (some (.long a))) h') (f_combine S op r ix o at')) : T_X5_combine [.ref x, .int op, .int r, .int ix, .int o, .int at'] h Q := by
  have K0 : c_CH h Z x S := ⟨_, _, _, _, C⟩
  have F0 : c_fz Z h h := fun _ _ => rfl
  unfold f_combine at hQ
  (intro P hP; conv => whnf)
  repeat (first | (refine hP _ _ _ _ _ _ ?_; conv => whnf) | (refine ⟨fun q => absurd q (by decide), fun _ => ?_⟩) | (refine ⟨fun _ => ?_, fun q => absurd (by decide) q⟩) | (refine ac_get C.1 ?_; conv => whnf) | (refine ⟨_, C.1, Nat.le_of_ble_eq_true rfl, Nat.le_of_ble_eq_true rfl, Nat.le_of_ble_eq_true rfl, ?_⟩) | (refine ⟨Nat.le_of_ble_eq_true rfl, Nat.le_of_ble_eq_true rfl, Nat.le_of_ble_eq_true rfl, ?_⟩))
  refine ⟨fun q => ?_, fun q => ?_⟩
  · rw [if_pos (Or.inl (Or.inl q))] at hQ
    repeat (first | (refine hP _ _ _ _ _ _ ?_; conv => whnf) | (refine ⟨fun q => absurd q (by decide), fun _ => ?_⟩) | (refine ⟨fun _ => ?_, fun q => absurd (by decide) q⟩) | (refine ac_get C.1 ?_; conv => whnf) | (refine ⟨_, C.1, Nat.le_of_ble_eq_true rfl, Nat.le_of_ble_eq_true rfl, Nat.le_of_ble_eq_true rfl, ?_⟩) | (refine ⟨Nat.le_of_ble_eq_true rfl, Nat.le_of_ble_eq_true rfl, Nat.le_of_ble_eq_true rfl, ?_⟩))
    refine sp_requireArgument (fun z => absurd rfl z) (fun _ => ?_)
    refine ac_koX (by decide) ?_
    exact hQ _ K0 F0
  repeat (first | (refine hP _ _ _ _ _ _ ?_; conv => whnf) | (refine ⟨fun q => absurd q (by decide), fun _ => ?_⟩) | (refine ⟨fun _ => ?_, fun q => absurd (by decide) q⟩) | (refine ac_get C.1 ?_; conv => whnf) | (refine ⟨_, C.1, Nat.le_of_ble_eq_true rfl, Nat.le_of_ble_eq_true rfl, Nat.le_of_ble_eq_true rfl, ?_⟩) | (refine ⟨Nat.le_of_ble_eq_true rfl, Nat.le_of_ble_eq_true rfl, Nat.le_of_ble_eq_true rfl, ?_⟩))
  refine ⟨fun q2 => ?_, fun q2 => ?_⟩
  · rw [if_pos (Or.inl ((m_badT (z := 5) (by decide) (by decide)).mp (Or.inr q2)))] at hQ
    repeat (first | (refine hP _ _ _ _ _ _ ?_; conv => whnf) | (refine ⟨fun q => absurd q (by decide), fun _ => ?_⟩) | (refine ⟨fun _ => ?_, fun q => absurd (by decide) q⟩) | (refine ac_get C.1 ?_; conv => whnf) | (refine ⟨_, C.1, Nat.le_of_ble_eq_true rfl, Nat.le_of_ble_eq_true rfl, Nat.le_of_ble_eq_true rfl, ?_⟩) | (refine ⟨Nat.le_of_ble_eq_true rfl, Nat.le_of_ble_eq_true rfl, Nat.le_of_ble_eq_true rfl, ?_⟩))
    refine sp_requireArgument (fun z => absurd rfl z) (fun _ => ?_)
    refine ac_koX (by decide) ?_
    exact hQ _ K0 F0
  have q2' : ¬ m_bad op 5 := fun z => ((m_badT (z := 5) (by decide) (by decide)).mpr z).elim q q2
  repeat (first | (refine hP _ _ _ _ _ _ ?_; conv => whnf) | (refine ⟨fun q => absurd q (by decide), fun _ => ?_⟩) | (refine ⟨fun _ => ?_, fun q => absurd (by decide) q⟩) | (refine ac_get C.1 ?_; conv => whnf) | (refine ⟨_, C.1, Nat.le_of_ble_eq_true rfl, Nat.le_of_ble_eq_true rfl, Nat.le_of_ble_eq_true rfl, ?_⟩) | (refine ⟨Nat.le_of_ble_eq_true rfl, Nat.le_of_ble_eq_true rfl, Nat.le_of_ble_eq_true rfl, ?_⟩))
  refine sp_requireArgument (fun _ => ?_) (fun z => absurd z (by decide))
  repeat (first | (refine hP _ _ _ _ _ _ ?_; conv => whnf) | (refine ⟨fun q => absurd q (by decide), fun _ => ?_⟩) | (refine ⟨fun _ => ?_, fun q => absurd (by decide) q⟩) | (refine ac_get C.1 ?_; conv => whnf) | (refine ⟨_, C.1, Nat.le_of_ble_eq_true rfl, Nat.le_of_ble_eq_true rfl, Nat.le_of_ble_eq_true rfl, ?_⟩) | (refine ⟨Nat.le_of_ble_eq_true rfl, Nat.le_of_ble_eq_true rfl, Nat.le_of_ble_eq_true rfl, ?_⟩))
  refine c_rr (fun b => ?_) (fun k hk er => ?_)
  · rw [if_pos (Or.inr (Or.inl b))] at hQ
    refine ac_koX (by decide) ?_
    exact hQ _ K0 F0
  subst er
  repeat (first | (refine hP _ _ _ _ _ _ ?_; conv => whnf) | (refine ⟨fun q => absurd q (by decide), fun _ => ?_⟩) | (refine ⟨fun _ => ?_, fun q => absurd (by decide) q⟩) | (refine ac_get C.1 ?_; conv => whnf) | (refine ⟨_, C.1, Nat.le_of_ble_eq_true rfl, Nat.le_of_ble_eq_true rfl, Nat.le_of_ble_eq_true rfl, ?_⟩) | (refine ⟨Nat.le_of_ble_eq_true rfl, Nat.le_of_ble_eq_true rfl, Nat.le_of_ble_eq_true rfl, ?_⟩))
  refine c_rr (fun b => ?_) (fun t ht er => ?_)
  · rw [if_pos (Or.inr (Or.inr b))] at hQ
    refine ac_koX (by decide) ?_
    exact hQ _ K0 F0
  subst er
  rw [if_neg (fun z => z.elim q2' (fun z => z.elim (m_badG (by decide) hk) (m_badG (by decide) ht)))] at hQ
  obtain ⟨p, hp, rfl⟩ := m_badN (by decide) q2'
  rw [nI_clamp (by omega), nI_clamp (by omega), nI_clamp (by omega)] at hQ
  repeat (first | (refine hP _ _ _ _ _ _ ?_; conv => whnf) | (refine ⟨fun q => absurd q (by decide), fun _ => ?_⟩) | (refine ⟨fun _ => ?_, fun q => absurd (by decide) q⟩) | (refine ac_get C.1 ?_; conv => whnf) | (refine ⟨_, C.1, Nat.le_of_ble_eq_true rfl, Nat.le_of_ble_eq_true rfl, Nat.le_of_ble_eq_true rfl, ?_⟩) | (refine ⟨Nat.le_of_ble_eq_true rfl, Nat.le_of_ble_eq_true rfl, Nat.le_of_ble_eq_true rfl, ?_⟩))
  refine c_itemIn C hk (fun e => ?_) (fun i e => ?_)
  · rw [e] at hQ
    refine ac_koX (by decide) ?_
    exact hQ _ K0 F0
  rw [e] at hQ
  replace hQ : m_app _ (m_ns 0 S (m_rg S t) (fun j => j_combine S p ix at' i j)) := hQ
  repeat (first | (refine hP _ _ _ _ _ _ ?_; conv => whnf) | (refine ⟨fun q => absurd q (by decide), fun _ => ?_⟩) | (refine ⟨fun _ => ?_, fun q => absurd (by decide) q⟩) | (refine ac_get C.1 ?_; conv => whnf) | (refine ⟨_, C.1, Nat.le_of_ble_eq_true rfl, Nat.le_of_ble_eq_true rfl, Nat.le_of_ble_eq_true rfl, ?_⟩) | (refine ⟨Nat.le_of_ble_eq_true rfl, Nat.le_of_ble_eq_true rfl, Nat.le_of_ble_eq_true rfl, ?_⟩))
  refine c_itemIn C ht (fun e2 => ?_) (fun j e2 => ?_)
  · rw [e2] at hQ
    refine ac_koX (by decide) ?_
    exact hQ _ K0 F0
  rw [e2] at hQ
  replace hQ : m_app _ (j_combine S p ix at' i j) := hQ
  unfold j_combine at hQ
  have hi := W.2.1 k i hk e
  have hj := W.2.1 t j ht e2
  have kgi := (W.2.2 i hi).2.2.2.2.1
  have kgj := (W.2.2 j hj).2.2.2.2.1
  repeat (first | (refine hP _ _ _ _ _ _ ?_; conv => whnf) | (refine ⟨fun q => absurd q (by decide), fun _ => ?_⟩) | (refine ⟨fun _ => ?_, fun q => absurd (by decide) q⟩) | (refine ac_get C.1 ?_; conv => whnf) | (refine ⟨_, C.1, Nat.le_of_ble_eq_true rfl, Nat.le_of_ble_eq_true rfl, Nat.le_of_ble_eq_true rfl, ?_⟩) | (refine ⟨Nat.le_of_ble_eq_true rfl, Nat.le_of_ble_eq_true rfl, Nat.le_of_ble_eq_true rfl, ?_⟩))
  refine c_sortU C W hi (Nat.le_of_ble_eq_true rfl) (Nat.le_of_ble_eq_true rfl) (Nat.le_of_ble_eq_true rfl) ?_
  repeat (first | (refine hP _ _ _ _ _ _ ?_; conv => whnf) | (refine ⟨fun q => absurd q (by decide), fun _ => ?_⟩) | (refine ⟨fun _ => ?_, fun q => absurd (by decide) q⟩) | (refine ac_get C.1 ?_; conv => whnf) | (refine ⟨_, C.1, Nat.le_of_ble_eq_true rfl, Nat.le_of_ble_eq_true rfl, Nat.le_of_ble_eq_true rfl, ?_⟩) | (refine ⟨Nat.le_of_ble_eq_true rfl, Nat.le_of_ble_eq_true rfl, Nat.le_of_ble_eq_true rfl, ?_⟩))
  by_cases c5 : 5 < m_kd S (m_gr S i)
  · rw [if_pos (Or.inl c5)] at hQ
    refine br_t (nI_lt (a := 5) c5 (by omega)) ?_
    repeat (first | (refine hP _ _ _ _ _ _ ?_; conv => whnf) | (refine ⟨fun q => absurd q (by decide), fun _ => ?_⟩) | (refine ⟨fun _ => ?_, fun q => absurd (by decide) q⟩) | (refine ac_get C.1 ?_; conv => whnf) | (refine ⟨_, C.1, Nat.le_of_ble_eq_true rfl, Nat.le_of_ble_eq_true rfl, Nat.le_of_ble_eq_true rfl, ?_⟩) | (refine ⟨Nat.le_of_ble_eq_true rfl, Nat.le_of_ble_eq_true rfl, Nat.le_of_ble_eq_true rfl, ?_⟩))
    refine sp_requireSupported (fun z => absurd rfl z) (fun _ => ?_)
    refine ac_koX (by decide) ?_
    exact hQ _ K0 F0
  refine br_f (nI_nlt (b := m_kd S (m_gr S i)) (a := 5) (by omega) (by decide)) ?_
  repeat (first | (refine hP _ _ _ _ _ _ ?_; conv => whnf) | (refine ⟨fun q => absurd q (by decide), fun _ => ?_⟩) | (refine ⟨fun _ => ?_, fun q => absurd (by decide) q⟩) | (refine ac_get C.1 ?_; conv => whnf) | (refine ⟨_, C.1, Nat.le_of_ble_eq_true rfl, Nat.le_of_ble_eq_true rfl, Nat.le_of_ble_eq_true rfl, ?_⟩) | (refine ⟨Nat.le_of_ble_eq_true rfl, Nat.le_of_ble_eq_true rfl, Nat.le_of_ble_eq_true rfl, ?_⟩))
  refine c_sortU C W hj (Nat.le_of_ble_eq_true rfl) (Nat.le_of_ble_eq_true rfl) (Nat.le_of_ble_eq_true rfl) ?_
  repeat (first | (refine hP _ _ _ _ _ _ ?_; conv => whnf) | (refine ⟨fun q => absurd q (by decide), fun _ => ?_⟩) | (refine ⟨fun _ => ?_, fun q => absurd (by decide) q⟩) | (refine ac_get C.1 ?_; conv => whnf) | (refine ⟨_, C.1, Nat.le_of_ble_eq_true rfl, Nat.le_of_ble_eq_true rfl, Nat.le_of_ble_eq_true rfl, ?_⟩) | (refine ⟨Nat.le_of_ble_eq_true rfl, Nat.le_of_ble_eq_true rfl, Nat.le_of_ble_eq_true rfl, ?_⟩))
  by_cases c6 : 5 < m_kd S (m_gr S j)
  · rw [if_pos (Or.inr c6)] at hQ
    refine br_t (nI_lt (a := 5) c6 (by omega)) ?_
    repeat (first | (refine hP _ _ _ _ _ _ ?_; conv => whnf) | (refine ⟨fun q => absurd q (by decide), fun _ => ?_⟩) | (refine ⟨fun _ => ?_, fun q => absurd (by decide) q⟩) | (refine ac_get C.1 ?_; conv => whnf) | (refine ⟨_, C.1, Nat.le_of_ble_eq_true rfl, Nat.le_of_ble_eq_true rfl, Nat.le_of_ble_eq_true rfl, ?_⟩) | (refine ⟨Nat.le_of_ble_eq_true rfl, Nat.le_of_ble_eq_true rfl, Nat.le_of_ble_eq_true rfl, ?_⟩))
    refine sp_requireSupported (fun z => absurd rfl z) (fun _ => ?_)
    refine ac_koX (by decide) ?_
    exact hQ _ K0 F0
  refine br_f (nI_nlt (b := m_kd S (m_gr S j)) (a := 5) (by omega) (by decide)) ?_
  rw [if_neg (fun z => z.elim c5 c6)] at hQ
  repeat (first | (refine hP _ _ _ _ _ _ ?_; conv => whnf) | (refine ⟨fun q => absurd q (by decide), fun _ => ?_⟩) | (refine ⟨fun _ => ?_, fun q => absurd (by decide) q⟩) | (refine ac_get C.1 ?_; conv => whnf) | (refine ⟨_, C.1, Nat.le_of_ble_eq_true rfl, Nat.le_of_ble_eq_true rfl, Nat.le_of_ble_eq_true rfl, ?_⟩) | (refine ⟨Nat.le_of_ble_eq_true rfl, Nat.le_of_ble_eq_true rfl, Nat.le_of_ble_eq_true rfl, ?_⟩))
  refine sp_requireSupported (fun _ => ?_) (fun z => absurd z (by decide))
  repeat (first | (refine hP _ _ _ _ _ _ ?_; conv => whnf) | (refine ⟨fun q => absurd q (by decide), fun _ => ?_⟩) | (refine ⟨fun _ => ?_, fun q => absurd (by decide) q⟩) | (refine ac_get C.1 ?_; conv => whnf) | (refine ⟨_, C.1, Nat.le_of_ble_eq_true rfl, Nat.le_of_ble_eq_true rfl, Nat.le_of_ble_eq_true rfl, ?_⟩) | (refine ⟨Nat.le_of_ble_eq_true rfl, Nat.le_of_ble_eq_true rfl, Nat.le_of_ble_eq_true rfl, ?_⟩))
  refine c_take C W hi (by omega) (fun q => ?_) (fun q3 => ?_)
  · rw [if_pos q] at hQ
    exact ac_koX (c_x7 q) (c_xpl q (hQ _ K0 F0))
  rw [if_neg (fun z => z q3)] at hQ
  repeat (first | (refine hP _ _ _ _ _ _ ?_; conv => whnf) | (refine ⟨fun q => absurd q (by decide), fun _ => ?_⟩) | (refine ⟨fun _ => ?_, fun q => absurd (by decide) q⟩) | (refine ac_get C.1 ?_; conv => whnf) | (refine ⟨_, C.1, Nat.le_of_ble_eq_true rfl, Nat.le_of_ble_eq_true rfl, Nat.le_of_ble_eq_true rfl, ?_⟩) | (refine ⟨Nat.le_of_ble_eq_true rfl, Nat.le_of_ble_eq_true rfl, Nat.le_of_ble_eq_true rfl, ?_⟩))
  refine c_take C W hj (by omega) (fun q => ?_) (fun q4 => ?_)
  · rw [if_pos q] at hQ
    exact ac_koX (c_x7 q) (c_xpl q (hQ _ K0 F0))
  rw [if_neg (fun z => z q4)] at hQ
  repeat (first | (refine hP _ _ _ _ _ _ ?_; conv => whnf) | (refine ⟨fun q => absurd q (by decide), fun _ => ?_⟩) | (refine ⟨fun _ => ?_, fun q => absurd (by decide) q⟩) | (refine ac_get C.1 ?_; conv => whnf) | (refine ⟨_, C.1, Nat.le_of_ble_eq_true rfl, Nat.le_of_ble_eq_true rfl, Nat.le_of_ble_eq_true rfl, ?_⟩) | (refine ⟨Nat.le_of_ble_eq_true rfl, Nat.le_of_ble_eq_true rfl, Nat.le_of_ble_eq_true rfl, ?_⟩))
  refine c_rck hp (fun z => ?_) (fun z => ?_)
  · rw [if_neg z] at hQ
    have T : ∀ (b : Int32) (v : Int64), m_cv S i j (m_rck p (m_st S (24 * m_gr S i + (m_pl S i ix).2)) (m_st S (24 * m_gr S j + (m_pl S j at').2))) = v → ∀ lv, P 136 lv [.long v, .int ix, .ref (ad i)] h 16 512 := by
      intro b v ev lv
      rw [ev] at hQ
      repeat (first | (refine hP _ _ _ _ _ _ ?_; conv => whnf) | (refine ⟨fun q => absurd q (by decide), fun _ => ?_⟩) | (refine ⟨fun _ => ?_, fun q => absurd (by decide) q⟩) | (refine ac_get C.1 ?_; conv => whnf) | (refine ⟨_, C.1, Nat.le_of_ble_eq_true rfl, Nat.le_of_ble_eq_true rfl, Nat.le_of_ble_eq_true rfl, ?_⟩) | (refine ⟨Nat.le_of_ble_eq_true rfl, Nat.le_of_ble_eq_true rfl, Nat.le_of_ble_eq_true rfl, ?_⟩))
      refine c_put C W hi (by omega) (fun q => absurd q3 q) (fun _ h' C' F' => ?_)
      repeat (first | (refine hP _ _ _ _ _ _ ?_; conv => whnf) | (refine ⟨fun q => absurd q (by decide), fun _ => ?_⟩) | (refine ⟨fun _ => ?_, fun q => absurd (by decide) q⟩) | (refine ac_get C.1 ?_; conv => whnf) | (refine ⟨_, C.1, Nat.le_of_ble_eq_true rfl, Nat.le_of_ble_eq_true rfl, Nat.le_of_ble_eq_true rfl, ?_⟩) | (refine ⟨Nat.le_of_ble_eq_true rfl, Nat.le_of_ble_eq_true rfl, Nat.le_of_ble_eq_true rfl, ?_⟩))
      exact ⟨rfl, hQ _ ⟨_, _, _, _, C'⟩ F', by decide, by decide⟩
    repeat (first | (refine hP _ _ _ _ _ _ ?_; conv => whnf) | (refine ⟨fun q => absurd q (by decide), fun _ => ?_⟩) | (refine ⟨fun _ => ?_, fun q => absurd (by decide) q⟩) | (refine ac_get C.1 ?_; conv => whnf) | (refine ⟨_, C.1, Nat.le_of_ble_eq_true rfl, Nat.le_of_ble_eq_true rfl, Nat.le_of_ble_eq_true rfl, ?_⟩) | (refine ⟨Nat.le_of_ble_eq_true rfl, Nat.le_of_ble_eq_true rfl, Nat.le_of_ble_eq_true rfl, ?_⟩))
    refine c_sortU C W hi (Nat.le_of_ble_eq_true rfl) (Nat.le_of_ble_eq_true rfl) (Nat.le_of_ble_eq_true rfl) ?_
    repeat (first | (refine hP _ _ _ _ _ _ ?_; conv => whnf) | (refine ⟨fun q => absurd q (by decide), fun _ => ?_⟩) | (refine ⟨fun _ => ?_, fun q => absurd (by decide) q⟩) | (refine ac_get C.1 ?_; conv => whnf) | (refine ⟨_, C.1, Nat.le_of_ble_eq_true rfl, Nat.le_of_ble_eq_true rfl, Nat.le_of_ble_eq_true rfl, ?_⟩) | (refine ⟨Nat.le_of_ble_eq_true rfl, Nat.le_of_ble_eq_true rfl, Nat.le_of_ble_eq_true rfl, ?_⟩))
    by_cases c7 : 5 ≤ m_kd S (m_gr S i)
    · refine br_t (nI_le (a := 5) c7 (by omega)) ?_
      iterate 6 (refine hP _ _ _ _ _ _ ?_; conv => whnf)
      refine ⟨fun _ => ?_, fun z => absurd (by decide) z⟩
      iterate 1 (refine hP _ _ _ _ _ _ ?_; conv => whnf)
      exact T 0 _ (if_neg (by omega)) _
    · refine br_f (nI_ge (b := 5) (by omega) (by decide)) ?_
      repeat (first | (refine hP _ _ _ _ _ _ ?_; conv => whnf) | (refine ⟨fun q => absurd q (by decide), fun _ => ?_⟩) | (refine ⟨fun _ => ?_, fun q => absurd (by decide) q⟩) | (refine ac_get C.1 ?_; conv => whnf) | (refine ⟨_, C.1, Nat.le_of_ble_eq_true rfl, Nat.le_of_ble_eq_true rfl, Nat.le_of_ble_eq_true rfl, ?_⟩) | (refine ⟨Nat.le_of_ble_eq_true rfl, Nat.le_of_ble_eq_true rfl, Nat.le_of_ble_eq_true rfl, ?_⟩))
      refine c_sortU C W hj (Nat.le_of_ble_eq_true rfl) (Nat.le_of_ble_eq_true rfl) (Nat.le_of_ble_eq_true rfl) ?_
      repeat (first | (refine hP _ _ _ _ _ _ ?_; conv => whnf) | (refine ⟨fun q => absurd q (by decide), fun _ => ?_⟩) | (refine ⟨fun _ => ?_, fun q => absurd (by decide) q⟩) | (refine ac_get C.1 ?_; conv => whnf) | (refine ⟨_, C.1, Nat.le_of_ble_eq_true rfl, Nat.le_of_ble_eq_true rfl, Nat.le_of_ble_eq_true rfl, ?_⟩) | (refine ⟨Nat.le_of_ble_eq_true rfl, Nat.le_of_ble_eq_true rfl, Nat.le_of_ble_eq_true rfl, ?_⟩))
      by_cases c8 : 5 ≤ m_kd S (m_gr S j)
      · refine br_t (nI_le (a := 5) c8 (by omega)) ?_
        iterate 6 (refine hP _ _ _ _ _ _ ?_; conv => whnf)
        refine ⟨fun _ => ?_, fun z => absurd (by decide) z⟩
        iterate 1 (refine hP _ _ _ _ _ _ ?_; conv => whnf)
        exact T 0 _ (if_neg (by omega)) _
      · refine br_f (nI_ge (b := 5) (by omega) (by decide)) ?_
        iterate 7 (refine hP _ _ _ _ _ _ ?_; conv => whnf)
        refine ⟨fun z => absurd z (by decide), fun _ => ?_⟩
        iterate 4 (refine hP _ _ _ _ _ _ ?_; conv => whnf)
        exact T 0 _ (if_pos (by omega)) _
  · rw [if_pos z] at hQ
    refine ac_koX (by decide) ?_
    exact hQ _ K0 F0
theorem C_move {h0 : ac_H} (C : c_ch h0 Z x ad ow hd hf S) (W : m_wf S) {r ix o at' n : Int32} (hQ : m_app (fun x' a S' => ∀ h', c_CH h' Z x S' → c_fz Z h0 h' → Q (m_out x' (some (.int a))) h') (f_move S r ix o at' n)) : T_X5_move [.ref x, .int r, .int ix, .int o, .int at', .int n] h0 Q := by
  have K0 : c_CH h0 Z x S := ⟨_, _, _, _, C⟩
  have F0 : c_fz Z h0 h0 := fun _ _ => rfl
  unfold f_move at hQ
  (intro P hP; conv => whnf)
  repeat (first | (refine hP _ _ _ _ _ _ ?_; conv => whnf) | (refine ⟨fun q => absurd q (by decide), fun _ => ?_⟩) | (refine ⟨fun _ => ?_, fun q => absurd (by decide) q⟩) | (refine ac_get C.1 ?_; conv => whnf) | (refine ⟨_, C.1, Nat.le_of_ble_eq_true rfl, Nat.le_of_ble_eq_true rfl, Nat.le_of_ble_eq_true rfl, ?_⟩) | (refine ⟨Nat.le_of_ble_eq_true rfl, Nat.le_of_ble_eq_true rfl, Nat.le_of_ble_eq_true rfl, ?_⟩))
  refine c_rr (fun b => ?_) (fun k hk er => ?_)
  · rw [if_pos (Or.inl b)] at hQ
    refine ac_koX (by decide) ?_
    exact hQ _ K0 F0
  subst er
  repeat (first | (refine hP _ _ _ _ _ _ ?_; conv => whnf) | (refine ⟨fun q => absurd q (by decide), fun _ => ?_⟩) | (refine ⟨fun _ => ?_, fun q => absurd (by decide) q⟩) | (refine ac_get C.1 ?_; conv => whnf) | (refine ⟨_, C.1, Nat.le_of_ble_eq_true rfl, Nat.le_of_ble_eq_true rfl, Nat.le_of_ble_eq_true rfl, ?_⟩) | (refine ⟨Nat.le_of_ble_eq_true rfl, Nat.le_of_ble_eq_true rfl, Nat.le_of_ble_eq_true rfl, ?_⟩))
  refine c_rr (fun b => ?_) (fun t ht er => ?_)
  · rw [if_pos (Or.inr (Or.inl b))] at hQ
    refine ac_koX (by decide) ?_
    exact hQ _ K0 F0
  subst er
  repeat (first | (refine hP _ _ _ _ _ _ ?_; conv => whnf) | (refine ⟨fun q => absurd q (by decide), fun _ => ?_⟩) | (refine ⟨fun _ => ?_, fun q => absurd (by decide) q⟩) | (refine ac_get C.1 ?_; conv => whnf) | (refine ⟨_, C.1, Nat.le_of_ble_eq_true rfl, Nat.le_of_ble_eq_true rfl, Nat.le_of_ble_eq_true rfl, ?_⟩) | (refine ⟨Nat.le_of_ble_eq_true rfl, Nat.le_of_ble_eq_true rfl, Nat.le_of_ble_eq_true rfl, ?_⟩))
  refine ⟨fun q => ?_, fun q => ?_⟩
  · rw [if_pos (Or.inr (Or.inr (Or.inl q)))] at hQ
    repeat (first | (refine hP _ _ _ _ _ _ ?_; conv => whnf) | (refine ⟨fun q => absurd q (by decide), fun _ => ?_⟩) | (refine ⟨fun _ => ?_, fun q => absurd (by decide) q⟩) | (refine ac_get C.1 ?_; conv => whnf) | (refine ⟨_, C.1, Nat.le_of_ble_eq_true rfl, Nat.le_of_ble_eq_true rfl, Nat.le_of_ble_eq_true rfl, ?_⟩) | (refine ⟨Nat.le_of_ble_eq_true rfl, Nat.le_of_ble_eq_true rfl, Nat.le_of_ble_eq_true rfl, ?_⟩))
    refine sp_requireArgument (fun z => absurd rfl z) (fun _ => ?_)
    refine ac_koX (by decide) ?_
    exact hQ _ K0 F0
  repeat (first | (refine hP _ _ _ _ _ _ ?_; conv => whnf) | (refine ⟨fun q => absurd q (by decide), fun _ => ?_⟩) | (refine ⟨fun _ => ?_, fun q => absurd (by decide) q⟩) | (refine ac_get C.1 ?_; conv => whnf) | (refine ⟨_, C.1, Nat.le_of_ble_eq_true rfl, Nat.le_of_ble_eq_true rfl, Nat.le_of_ble_eq_true rfl, ?_⟩) | (refine ⟨Nat.le_of_ble_eq_true rfl, Nat.le_of_ble_eq_true rfl, Nat.le_of_ble_eq_true rfl, ?_⟩))
  refine ⟨fun q2 => ?_, fun q2 => ?_⟩
  · rw [if_pos (Or.inr (Or.inr ((m_badT (z := 25) (by decide) (by decide)).mp (Or.inr q2))))] at hQ
    repeat (first | (refine hP _ _ _ _ _ _ ?_; conv => whnf) | (refine ⟨fun q => absurd q (by decide), fun _ => ?_⟩) | (refine ⟨fun _ => ?_, fun q => absurd (by decide) q⟩) | (refine ac_get C.1 ?_; conv => whnf) | (refine ⟨_, C.1, Nat.le_of_ble_eq_true rfl, Nat.le_of_ble_eq_true rfl, Nat.le_of_ble_eq_true rfl, ?_⟩) | (refine ⟨Nat.le_of_ble_eq_true rfl, Nat.le_of_ble_eq_true rfl, Nat.le_of_ble_eq_true rfl, ?_⟩))
    refine sp_requireArgument (fun z => absurd rfl z) (fun _ => ?_)
    refine ac_koX (by decide) ?_
    exact hQ _ K0 F0
  have q2' : ¬ m_bad n 25 := fun z => ((m_badT (z := 25) (by decide) (by decide)).mpr z).elim q q2
  repeat (first | (refine hP _ _ _ _ _ _ ?_; conv => whnf) | (refine ⟨fun q => absurd q (by decide), fun _ => ?_⟩) | (refine ⟨fun _ => ?_, fun q => absurd (by decide) q⟩) | (refine ac_get C.1 ?_; conv => whnf) | (refine ⟨_, C.1, Nat.le_of_ble_eq_true rfl, Nat.le_of_ble_eq_true rfl, Nat.le_of_ble_eq_true rfl, ?_⟩) | (refine ⟨Nat.le_of_ble_eq_true rfl, Nat.le_of_ble_eq_true rfl, Nat.le_of_ble_eq_true rfl, ?_⟩))
  refine sp_requireArgument (fun _ => ?_) (fun z => absurd z (by decide))
  rw [if_neg (fun z => z.elim (m_badG (by decide) hk) (fun z => z.elim (m_badG (by decide) ht) q2'))] at hQ
  obtain ⟨p, hp, rfl⟩ := m_badN (by decide) q2'
  rw [nI_clamp (by omega), nI_clamp (by omega), nI_clamp (by omega)] at hQ
  repeat (first | (refine hP _ _ _ _ _ _ ?_; conv => whnf) | (refine ⟨fun q => absurd q (by decide), fun _ => ?_⟩) | (refine ⟨fun _ => ?_, fun q => absurd (by decide) q⟩) | (refine ac_get C.1 ?_; conv => whnf) | (refine ⟨_, C.1, Nat.le_of_ble_eq_true rfl, Nat.le_of_ble_eq_true rfl, Nat.le_of_ble_eq_true rfl, ?_⟩) | (refine ⟨Nat.le_of_ble_eq_true rfl, Nat.le_of_ble_eq_true rfl, Nat.le_of_ble_eq_true rfl, ?_⟩))
  refine c_itemIn C hk (fun e => ?_) (fun i e => ?_)
  · rw [e] at hQ
    refine ac_koX (by decide) ?_
    exact hQ _ K0 F0
  rw [e] at hQ
  replace hQ : m_app _ (m_ns 0 S (m_rg S t) (fun j => j_move S ix at' p i j)) := hQ
  repeat (first | (refine hP _ _ _ _ _ _ ?_; conv => whnf) | (refine ⟨fun q => absurd q (by decide), fun _ => ?_⟩) | (refine ⟨fun _ => ?_, fun q => absurd (by decide) q⟩) | (refine ac_get C.1 ?_; conv => whnf) | (refine ⟨_, C.1, Nat.le_of_ble_eq_true rfl, Nat.le_of_ble_eq_true rfl, Nat.le_of_ble_eq_true rfl, ?_⟩) | (refine ⟨Nat.le_of_ble_eq_true rfl, Nat.le_of_ble_eq_true rfl, Nat.le_of_ble_eq_true rfl, ?_⟩))
  refine c_itemIn C ht (fun e2 => ?_) (fun j e2 => ?_)
  · rw [e2] at hQ
    refine ac_koX (by decide) ?_
    exact hQ _ K0 F0
  rw [e2] at hQ
  replace hQ : m_app _ (j_move S ix at' p i j) := hQ
  unfold j_move at hQ
  have hi := W.2.1 k i hk e
  have hj := W.2.1 t j ht e2
  have kgi := (W.2.2 i hi).2.2.2.2.1
  have kgj := (W.2.2 j hj).2.2.2.2.1
  repeat (first | (refine hP _ _ _ _ _ _ ?_; conv => whnf) | (refine ⟨fun q => absurd q (by decide), fun _ => ?_⟩) | (refine ⟨fun _ => ?_, fun q => absurd (by decide) q⟩) | (refine ac_get C.1 ?_; conv => whnf) | (refine ⟨_, C.1, Nat.le_of_ble_eq_true rfl, Nat.le_of_ble_eq_true rfl, Nat.le_of_ble_eq_true rfl, ?_⟩) | (refine ⟨Nat.le_of_ble_eq_true rfl, Nat.le_of_ble_eq_true rfl, Nat.le_of_ble_eq_true rfl, ?_⟩))
  refine c_sortU C W hi (Nat.le_of_ble_eq_true rfl) (Nat.le_of_ble_eq_true rfl) (Nat.le_of_ble_eq_true rfl) ?_
  repeat (first | (refine hP _ _ _ _ _ _ ?_; conv => whnf) | (refine ⟨fun q => absurd q (by decide), fun _ => ?_⟩) | (refine ⟨fun _ => ?_, fun q => absurd (by decide) q⟩) | (refine ac_get C.1 ?_; conv => whnf) | (refine ⟨_, C.1, Nat.le_of_ble_eq_true rfl, Nat.le_of_ble_eq_true rfl, Nat.le_of_ble_eq_true rfl, ?_⟩) | (refine ⟨Nat.le_of_ble_eq_true rfl, Nat.le_of_ble_eq_true rfl, Nat.le_of_ble_eq_true rfl, ?_⟩))
  by_cases c5 : 7 < m_kd S (m_gr S i)
  · rw [if_pos (Or.inl c5)] at hQ
    refine br_t (nI_lt (a := 7) c5 (by omega)) ?_
    repeat (first | (refine hP _ _ _ _ _ _ ?_; conv => whnf) | (refine ⟨fun q => absurd q (by decide), fun _ => ?_⟩) | (refine ⟨fun _ => ?_, fun q => absurd (by decide) q⟩) | (refine ac_get C.1 ?_; conv => whnf) | (refine ⟨_, C.1, Nat.le_of_ble_eq_true rfl, Nat.le_of_ble_eq_true rfl, Nat.le_of_ble_eq_true rfl, ?_⟩) | (refine ⟨Nat.le_of_ble_eq_true rfl, Nat.le_of_ble_eq_true rfl, Nat.le_of_ble_eq_true rfl, ?_⟩))
    refine sp_requireSupported (fun z => absurd rfl z) (fun _ => ?_)
    refine ac_koX (by decide) ?_
    exact hQ _ K0 F0
  refine br_f (nI_nlt (b := m_kd S (m_gr S i)) (a := 7) (by omega) (by decide)) ?_
  repeat (first | (refine hP _ _ _ _ _ _ ?_; conv => whnf) | (refine ⟨fun q => absurd q (by decide), fun _ => ?_⟩) | (refine ⟨fun _ => ?_, fun q => absurd (by decide) q⟩) | (refine ac_get C.1 ?_; conv => whnf) | (refine ⟨_, C.1, Nat.le_of_ble_eq_true rfl, Nat.le_of_ble_eq_true rfl, Nat.le_of_ble_eq_true rfl, ?_⟩) | (refine ⟨Nat.le_of_ble_eq_true rfl, Nat.le_of_ble_eq_true rfl, Nat.le_of_ble_eq_true rfl, ?_⟩))
  refine c_sortU C W hj (Nat.le_of_ble_eq_true rfl) (Nat.le_of_ble_eq_true rfl) (Nat.le_of_ble_eq_true rfl) ?_
  repeat (first | (refine hP _ _ _ _ _ _ ?_; conv => whnf) | (refine ⟨fun q => absurd q (by decide), fun _ => ?_⟩) | (refine ⟨fun _ => ?_, fun q => absurd (by decide) q⟩) | (refine ac_get C.1 ?_; conv => whnf) | (refine ⟨_, C.1, Nat.le_of_ble_eq_true rfl, Nat.le_of_ble_eq_true rfl, Nat.le_of_ble_eq_true rfl, ?_⟩) | (refine ⟨Nat.le_of_ble_eq_true rfl, Nat.le_of_ble_eq_true rfl, Nat.le_of_ble_eq_true rfl, ?_⟩))
  by_cases c6 : 7 < m_kd S (m_gr S j)
  · rw [if_pos (Or.inr c6)] at hQ
    refine br_t (nI_lt (a := 7) c6 (by omega)) ?_
    repeat (first | (refine hP _ _ _ _ _ _ ?_; conv => whnf) | (refine ⟨fun q => absurd q (by decide), fun _ => ?_⟩) | (refine ⟨fun _ => ?_, fun q => absurd (by decide) q⟩) | (refine ac_get C.1 ?_; conv => whnf) | (refine ⟨_, C.1, Nat.le_of_ble_eq_true rfl, Nat.le_of_ble_eq_true rfl, Nat.le_of_ble_eq_true rfl, ?_⟩) | (refine ⟨Nat.le_of_ble_eq_true rfl, Nat.le_of_ble_eq_true rfl, Nat.le_of_ble_eq_true rfl, ?_⟩))
    refine sp_requireSupported (fun z => absurd rfl z) (fun _ => ?_)
    refine ac_koX (by decide) ?_
    exact hQ _ K0 F0
  refine br_f (nI_nlt (b := m_kd S (m_gr S j)) (a := 7) (by omega) (by decide)) ?_
  rw [if_neg (fun z => z.elim c5 c6)] at hQ
  repeat (first | (refine hP _ _ _ _ _ _ ?_; conv => whnf) | (refine ⟨fun q => absurd q (by decide), fun _ => ?_⟩) | (refine ⟨fun _ => ?_, fun q => absurd (by decide) q⟩) | (refine ac_get C.1 ?_; conv => whnf) | (refine ⟨_, C.1, Nat.le_of_ble_eq_true rfl, Nat.le_of_ble_eq_true rfl, Nat.le_of_ble_eq_true rfl, ?_⟩) | (refine ⟨Nat.le_of_ble_eq_true rfl, Nat.le_of_ble_eq_true rfl, Nat.le_of_ble_eq_true rfl, ?_⟩))
  refine sp_requireSupported (fun _ => ?_) (fun z => absurd z (by decide))
  iterate 2 (refine hP _ _ _ _ _ _ ?_; conv => whnf)
  have L : ∀ d c T hx, c + d = p → m_wf T → m_kd T = m_kd S → m_gr T = m_gr S → m_mk T = m_mk S → c_ch hx Z x ad ow hd hf T → c_fz Z h0 hx → m_app (fun x' a S' => ∀ h', c_CH h' Z x S' → c_fz Z h0 h' → Q (m_out x' (some (.int a))) h') (m_mr p (m_mv i j ix at' d c T)) → ∀ v, P 73 [some (.ref x), some (.int (nI k)), some (.int ix), some (.int (nI t)), some (.int at'), some (.int (nI p)), some (.ref (ad i)), some (.ref (ad j)), some (.int (nI c)), v, none] [] hx (6 + 8 * c) (40 + 460 * c) := by
    intro d
    induction d with
    | zero =>
      intro c T hx ec WT e4 e5 e6 C F hQ v
      have ec' : c = p := by omega
      subst ec'
      repeat (first | (refine hP _ _ _ _ _ _ ?_; conv => whnf) | (refine ⟨fun q => absurd q (by decide), fun _ => ?_⟩) | (refine ⟨fun _ => ?_, fun q => absurd (by decide) q⟩) | (refine ac_get C.1 ?_; conv => whnf) | (refine ⟨_, C.1, Nat.le_of_ble_eq_true rfl, Nat.le_of_ble_eq_true rfl, Nat.le_of_ble_eq_true rfl, ?_⟩) | (refine ⟨Nat.le_of_ble_eq_true rfl, Nat.le_of_ble_eq_true rfl, Nat.le_of_ble_eq_true rfl, ?_⟩))
      refine br_t (nI_le (Nat.le_refl _) (by omega)) ?_
      repeat (first | (refine hP _ _ _ _ _ _ ?_; conv => whnf) | (refine ⟨fun q => absurd q (by decide), fun _ => ?_⟩) | (refine ⟨fun _ => ?_, fun q => absurd (by decide) q⟩) | (refine ac_get C.1 ?_; conv => whnf) | (refine ⟨_, C.1, Nat.le_of_ble_eq_true rfl, Nat.le_of_ble_eq_true rfl, Nat.le_of_ble_eq_true rfl, ?_⟩) | (refine ⟨Nat.le_of_ble_eq_true rfl, Nat.le_of_ble_eq_true rfl, Nat.le_of_ble_eq_true rfl, ?_⟩))
      refine ⟨rfl, hQ _ ⟨_, _, _, _, C⟩ F, ?_, ?_⟩
      · show 6 + 8 * c ≤ 198
        omega
      · show 40 + 460 * c ≤ 11080
        omega
    | succ d ih =>
      intro c T hx ec WT e4 e5 e6 C F hQ v
      unfold m_mv at hQ
      have hiT : i < m_mk T := by rw [e6]; exact hi
      have hjT : j < m_mk T := by rw [e6]; exact hj
      have k7i : m_kd T (m_gr T i) ≤ 7 := by rw [e4, e5]; omega
      have k7j : m_kd T (m_gr T j) ≤ 7 := by rw [e4, e5]; omega
      have giT := m_wg WT hiT
      have liT := (WT.2.2 _ giT).2.1
      repeat (first | (refine hP _ _ _ _ _ _ ?_; conv => whnf) | (refine ⟨fun q => absurd q (by decide), fun _ => ?_⟩) | (refine ⟨fun _ => ?_, fun q => absurd (by decide) q⟩) | (refine ac_get C.1 ?_; conv => whnf) | (refine ⟨_, C.1, Nat.le_of_ble_eq_true rfl, Nat.le_of_ble_eq_true rfl, Nat.le_of_ble_eq_true rfl, ?_⟩) | (refine ⟨Nat.le_of_ble_eq_true rfl, Nat.le_of_ble_eq_true rfl, Nat.le_of_ble_eq_true rfl, ?_⟩))
      refine br_f (nI_ge (by omega) (by omega)) ?_
      iterate 5 (refine hP _ _ _ _ _ _ ?_; conv => whnf)
      refine ⟨Nat.le_of_ble_eq_true rfl, ?_, ?_, ?_⟩
      · show 6 + 8 * c + 4 ≤ 198
        omega
      · show 40 + 460 * c + 230 ≤ 11080
        omega
      refine c_take C WT hjT k7j (fun q => ?_) (fun q => ?_)
      · rw [if_pos q] at hQ
        have e7 : m_mr p ((m_pl T j (at' + nI c)).1, T) = ((m_pl T j (at' + nI c)).1, 0, T) := by
          unfold m_mr
          rw [if_neg q]
        rw [e7] at hQ
        exact ac_koX (c_x7 q) (c_xpl q (hQ _ ⟨_, _, _, _, C⟩ F))
      rw [if_neg (fun z => z q)] at hQ
      iterate 7 (refine hP _ _ _ _ _ _ ?_; conv => whnf)
      refine ⟨Nat.le_of_ble_eq_true rfl, ?_, ?_, ?_⟩
      · show 6 + 8 * c + 4 + 4 ≤ 198
        omega
      · show 40 + 460 * c + 230 + 230 ≤ 11080
        omega
      refine c_put C WT hiT k7i (fun q2 => ?_) (fun q2 h' C' F' => ?_)
      · rw [if_pos q2] at hQ
        have e7 : m_mr p ((m_pl T i (ix + nI c)).1, T) = ((m_pl T i (ix + nI c)).1, 0, T) := by
          unfold m_mr
          rw [if_neg q2]
        rw [e7] at hQ
        exact ac_koX (c_x7 q2) (c_xpl q2 (hQ _ ⟨_, _, _, _, C⟩ F))
      rw [if_neg (fun z => z q2)] at hQ
      obtain ⟨p1, p2, p3⟩ := m_pl7 WT hiT q2
      iterate 3 (refine hP _ _ _ _ _ _ ?_; conv => whnf)
      have ih2 := ih (c + 1) _ h' (by omega) (wf_sst7 WT (by omega) k7i) e4 e5 e6 C' (fun b hb => (F' b hb).trans (F b hb)) hQ (some (.long (m_st T (24 * m_gr T j + (m_pl T j (at' + nI c)).2))))
      rw [← nI_1, show 6 + 8 * (c + 1) = 6 + 8 * c + 4 + 4 by omega, show 40 + 460 * (c + 1) = 40 + 460 * c + 230 + 230 by omega] at ih2
      exact ih2
  exact L p 0 S h0 (by omega) W rfl rfl rfl C F0 hQ _
end CLH
