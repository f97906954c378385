/-! ===== the class: copy, lose, size, take, put ===== -/
section CLF
variable {h : ac_H} {Z : Nat → Prop} {x : Nat} {ad : Nat → Nat} {ow : Nat → Option Nat} {hd : Nat} {hf : Nat → Option Nat} {S : m_S} {Q : ac_Q}
def c_cl (k : Nat) : Nat := if k ≤ 8 then 6 else if k = 9 then 4 else if k = 10 then 5 else 7
theorem c_clI (k : Nat) : ∀ X : Prop, X → ac_item (c_cl k) X := by
  intro X hX
  unfold c_cl
  split
  · exact hX
  · split
    · exact hX
    · split
      · exact hX
      · exact hX
theorem c_cls (C : c_ch h Z x ad ow hd hf S) (W : m_wf S) {i : Nat} (hi : i < m_mk S) : ∃ fs, h (ad i) = some (.inl (c_cl (m_kd S i), fs)) := by
  have A := C.2.2.2.1 i hi
  have w1 := (W.2.2 i hi).1
  rcases (show m_kd S i ≤ 8 ∨ m_kd S i = 9 ∨ m_kd S i = 10 ∨ m_kd S i = 11 by omega) with c | c | c | c
  · obtain ⟨vn, vi, e, -⟩ := c_vec A c
    rw [show c_cl (m_kd S i) = 6 from if_pos c]
    exact ⟨_, e⟩
  · obtain ⟨s, f, e, -⟩ := A.2.2.2.2.1 c
    rw [c]
    exact ⟨_, e⟩
  · have e := A.2.2.2.2.2.1 c
    rw [c]
    exact ⟨_, e⟩
  · have e := A.2.2.2.2.2.2 c
    rw [c]
    exact ⟨_, e⟩
theorem c_inst (C : c_ch h Z x ad ow hd hf S) (W : m_wf S) {i : Nat} (hi : i < m_mk S) {ci nx : Nat} {P : ac_P} {lv : ac_V} {r : List Value} {k n : Nat} (h1 : c_cl (m_kd S i) = ci → P nx lv (.int 1 :: r) h k n) (h2 : c_cl (m_kd S i) ≠ ci → P nx lv (.int 0 :: r) h k n) : ∃ (cj : Nat) (fs : List Value), h (ad i) = some (.inl (cj, fs)) ∧ ac_item cj (cond (Nat.beq cj ci) (P nx lv (.int 1 :: r) h k n) (P nx lv (.int 0 :: r) h k n)) := by
  obtain ⟨fs, e⟩ := c_cls C W hi
  refine ⟨_, _, e, c_clI _ _ ?_⟩
  by_cases c : c_cl (m_kd S i) = ci
  · rw [show Nat.beq (c_cl (m_kd S i)) ci = true from by rw [c]; first | exact Nat.beq_refl ci | simp]
    exact h1 c
  · rw [show Nat.beq (c_cl (m_kd S i)) ci = false from by
      cases b : Nat.beq (c_cl (m_kd S i)) ci with
      | true => exact absurd (Nat.eq_of_beq_eq_true b) c
      | false => rfl]
    exact h2 c
theorem c_whN (C : c_ch h Z x ad ow hd hf S) (W : m_wf S) {k' : Nat} (hk : k' < 8) {xx : Int32} (hx : xx = nI k') {nx : Nat} {P : ac_P} {lv : ac_V} {r : List Value} {k n : Nat} (K : ∀ h', c_ch h' Z x ad ow hd (va_up hf k' (c_oa ad none)) (m_srg S k' none) → c_fz Z h h' → P nx lv r h' k n) : ∃ (z : Nat) (f : Nat → Option Nat), h hd = some (.inr (3, z, .inr (.inr f))) ∧ vp_in xx z ∧ P nx lv r (ac_hs h hd (.inr (3, z, .inr (.inr (va_up f xx.toNatClampNeg none))))) k n := by
  subst hx
  refine ⟨_, _, C.2.1, vp_in_nI hk (by decide), ?_⟩
  rw [nI_clamp (by omega)]
  obtain ⟨C', F'⟩ := c_reg (k := k') (o := none) C W (h' := ac_hs h hd (.inr (3, 8, .inr (.inr (va_up hf k' none))))) ac_hsE (fun b hb => ac_hsN hb)
  exact K _ C' F'
theorem c_whR (C : c_ch h Z x ad ow hd hf S) (W : m_wf S) {i : Nat} (hi : i < m_mk S) {k' : Nat} (hk : k' < 8) {xx : Int32} (hx : xx = nI k') {nx : Nat} {P : ac_P} {lv : ac_V} {r : List Value} {k n : Nat} (K : ∀ h', c_ch h' Z x ad ow hd (va_up hf k' (c_oa ad (some i))) (m_srg S k' (some i)) → c_fz Z h h' → P nx lv r h' k n) : 3 = 3 ∧ ∃ (z : Nat) (f : Nat → Option Nat) (ci : Nat) (fs : List Value), h hd = some (.inr (3, z, .inr (.inr f))) ∧ h (ad i) = some (.inl (ci, fs)) ∧ ac_item ci (vp_in xx z ∧ P nx lv r (ac_hs h hd (.inr (3, z, .inr (.inr (va_up f xx.toNatClampNeg (some (ad i))))))) k n) := by
  subst hx
  obtain ⟨fs, e⟩ := c_cls C W hi
  refine ⟨rfl, _, _, _, _, C.2.1, e, c_clI _ _ ⟨vp_in_nI hk (by decide), ?_⟩⟩
  rw [nI_clamp (by omega)]
  obtain ⟨C', F'⟩ := c_reg (k := k') (o := some i) C W (h' := ac_hs h hd (.inr (3, 8, .inr (.inr (va_up hf k' (some (ad i))))))) ac_hsE (fun b hb => ac_hsN hb)
  exact K _ C' F'
theorem c_adI (C : c_ch h Z x ad ow hd hf S) {i j : Nat} (hi : i < m_mk S) (hj : j < m_mk S) (e : ad i = ad j) : i = j := by
  have h1 := (C.2.2.2.1 i hi).1
  have h2 := (C.2.2.2.1 j hj).1
  rw [e, h2] at h1
  cases h1
  rfl
theorem i32_m1 {f : Int32} (h1 : ¬ f < -1) (h2 : ¬ f = -1) : ¬ f < 0 := by
  have e1 : (-1 : Int32).toInt = -1 := by decide
  have e0 : (0 : Int32).toInt = 0 := by decide
  rw [Int32.lt_iff_toInt_lt] at h1 ⊢
  rw [← Int32.toInt_inj] at h2
  omega
theorem C_copy (C : c_ch h Z x ad ow hd hf S) (W : m_wf S) {r f : Int32} (hQ : m_app (fun x' a S' => ∀ h', c_CH h' Z x S' → c_fz Z h h' → Q (m_out x' (some (.int a))) h') (f_copy S r f)) : T_X5_copy [.ref x, .int r, .int f] h Q := by
  have K0 : c_CH h Z x S := ⟨_, _, _, _, C⟩
  have F0 : c_fz Z h h := fun _ _ => rfl
  unfold f_copy at hQ
  (intro P hP; conv => whnf)
  repeat (first | (refine hP _ _ _ _ _ _ ?_; conv => whnf) | (refine ⟨fun q => absurd q (by decide), fun _ => ?_⟩) | (refine ⟨fun _ => ?_, fun q => absurd (by decide) q⟩) | (refine ac_get C.1 ?_; conv => whnf) | (refine ⟨_, C.1, Nat.le_of_ble_eq_true rfl, Nat.le_of_ble_eq_true rfl, Nat.le_of_ble_eq_true rfl, ?_⟩) | (refine ⟨Nat.le_of_ble_eq_true rfl, Nat.le_of_ble_eq_true rfl, Nat.le_of_ble_eq_true rfl, ?_⟩))
  refine c_rr (fun b => ?_) (fun k hk er => ?_)
  · rw [if_pos (Or.inl b)] at hQ
    refine ac_koX (by decide) ?_
    exact hQ _ K0 F0
  subst er
  repeat (first | (refine hP _ _ _ _ _ _ ?_; conv => whnf) | (refine ⟨fun q => absurd q (by decide), fun _ => ?_⟩) | (refine ⟨fun _ => ?_, fun q => absurd (by decide) q⟩) | (refine ac_get C.1 ?_; conv => whnf) | (refine ⟨_, C.1, Nat.le_of_ble_eq_true rfl, Nat.le_of_ble_eq_true rfl, Nat.le_of_ble_eq_true rfl, ?_⟩) | (refine ⟨Nat.le_of_ble_eq_true rfl, Nat.le_of_ble_eq_true rfl, Nat.le_of_ble_eq_true rfl, ?_⟩))
  refine ⟨fun q => ?_, fun q => ?_⟩
  · rw [if_pos (Or.inr (Or.inl q))] at hQ
    repeat (first | (refine hP _ _ _ _ _ _ ?_; conv => whnf) | (refine ⟨fun q => absurd q (by decide), fun _ => ?_⟩) | (refine ⟨fun _ => ?_, fun q => absurd (by decide) q⟩) | (refine ac_get C.1 ?_; conv => whnf) | (refine ⟨_, C.1, Nat.le_of_ble_eq_true rfl, Nat.le_of_ble_eq_true rfl, Nat.le_of_ble_eq_true rfl, ?_⟩) | (refine ⟨Nat.le_of_ble_eq_true rfl, Nat.le_of_ble_eq_true rfl, Nat.le_of_ble_eq_true rfl, ?_⟩))
    refine sp_requireArgument (fun z => absurd rfl z) (fun _ => ?_)
    refine ac_koX (by decide) ?_
    exact hQ _ K0 F0
  repeat (first | (refine hP _ _ _ _ _ _ ?_; conv => whnf) | (refine ⟨fun q => absurd q (by decide), fun _ => ?_⟩) | (refine ⟨fun _ => ?_, fun q => absurd (by decide) q⟩) | (refine ac_get C.1 ?_; conv => whnf) | (refine ⟨_, C.1, Nat.le_of_ble_eq_true rfl, Nat.le_of_ble_eq_true rfl, Nat.le_of_ble_eq_true rfl, ?_⟩) | (refine ⟨Nat.le_of_ble_eq_true rfl, Nat.le_of_ble_eq_true rfl, Nat.le_of_ble_eq_true rfl, ?_⟩))
  refine ⟨fun q2 => ?_, fun q2 => ?_⟩
  · rw [if_pos (Or.inr ((m_bad7.mpr (Or.inr q2)).elim (fun z => Or.inl (absurd z (fun z => i32_lt_nle z (by
      have e0 : (0 : Int32).toInt = 0 := by decide
      have e8 : (8 : Int32).toInt = 8 := by decide
      have q3 : (8 : Int32) ≤ f := q2
      rw [Int32.le_iff_toInt_le] at q3 ⊢
      omega)))) Or.inr))] at hQ
    repeat (first | (refine hP _ _ _ _ _ _ ?_; conv => whnf) | (refine ⟨fun q => absurd q (by decide), fun _ => ?_⟩) | (refine ⟨fun _ => ?_, fun q => absurd (by decide) q⟩) | (refine ac_get C.1 ?_; conv => whnf) | (refine ⟨_, C.1, Nat.le_of_ble_eq_true rfl, Nat.le_of_ble_eq_true rfl, Nat.le_of_ble_eq_true rfl, ?_⟩) | (refine ⟨Nat.le_of_ble_eq_true rfl, Nat.le_of_ble_eq_true rfl, Nat.le_of_ble_eq_true rfl, ?_⟩))
    refine sp_requireArgument (fun z => absurd rfl z) (fun _ => ?_)
    refine ac_koX (by decide) ?_
    exact hQ _ K0 F0
  have q2' : ¬ 7 < f := fun z => (m_bad7.mp (Or.inr z)).elim (fun z2 => i32_lt_nle z2 (by
      have e0 : (0 : Int32).toInt = 0 := by decide
      have e8 : (7 : Int32).toInt = 7 := by decide
      rw [Int32.lt_iff_toInt_lt] at z
      rw [Int32.le_iff_toInt_le]
      omega)) q2
  rw [if_neg (fun z => z.elim (m_badG (by decide) hk) (fun z => z.elim q q2')), nI_clamp (by omega)] at hQ
  repeat (first | (refine hP _ _ _ _ _ _ ?_; conv => whnf) | (refine ⟨fun q => absurd q (by decide), fun _ => ?_⟩) | (refine ⟨fun _ => ?_, fun q => absurd (by decide) q⟩) | (refine ac_get C.1 ?_; conv => whnf) | (refine ⟨_, C.1, Nat.le_of_ble_eq_true rfl, Nat.le_of_ble_eq_true rfl, Nat.le_of_ble_eq_true rfl, ?_⟩) | (refine ⟨Nat.le_of_ble_eq_true rfl, Nat.le_of_ble_eq_true rfl, Nat.le_of_ble_eq_true rfl, ?_⟩))
  refine sp_requireArgument (fun _ => ?_) (fun z => absurd z (by decide))
  have T2 : ∀ o bb, m_cf S f = o → (∀ j, o = some j → j < m_mk S) → (if m_rg S k = o then (1 : Int32) else 0) = bb → P 54 [some (.ref x), some (.int (nI k)), some (.int f), some (va_rf (c_oa ad o)), none] [.int bb] h 2 12 := by
    intro o bb eo ho eb
    rw [eo, eb] at hQ
    have hbb : bb = 0 ∨ bb = 1 := by
      rw [← eb]
      split
      · exact Or.inr rfl
      · exact Or.inl rfl
    cases o with
    | none =>
      repeat (first | (refine hP _ _ _ _ _ _ ?_; conv => whnf) | (refine ⟨fun q => absurd q (by decide), fun _ => ?_⟩) | (refine ⟨fun _ => ?_, fun q => absurd (by decide) q⟩) | (refine ac_get C.1 ?_; conv => whnf) | (refine ⟨_, C.1, Nat.le_of_ble_eq_true rfl, Nat.le_of_ble_eq_true rfl, Nat.le_of_ble_eq_true rfl, ?_⟩) | (refine ⟨Nat.le_of_ble_eq_true rfl, Nat.le_of_ble_eq_true rfl, Nat.le_of_ble_eq_true rfl, ?_⟩))
      refine c_whN C W hk rfl (fun h' C' F' => ?_)
      repeat (first | (refine hP _ _ _ _ _ _ ?_; conv => whnf) | (refine ⟨fun q => absurd q (by decide), fun _ => ?_⟩) | (refine ⟨fun _ => ?_, fun q => absurd (by decide) q⟩) | (refine ac_get C.1 ?_; conv => whnf) | (refine ⟨_, C.1, Nat.le_of_ble_eq_true rfl, Nat.le_of_ble_eq_true rfl, Nat.le_of_ble_eq_true rfl, ?_⟩) | (refine ⟨Nat.le_of_ble_eq_true rfl, Nat.le_of_ble_eq_true rfl, Nat.le_of_ble_eq_true rfl, ?_⟩))
      exact ⟨rfl, hbb, hQ _ ⟨_, _, _, _, C'⟩ F', by decide, by decide⟩
    | some i =>
      repeat (first | (refine hP _ _ _ _ _ _ ?_; conv => whnf) | (refine ⟨fun q => absurd q (by decide), fun _ => ?_⟩) | (refine ⟨fun _ => ?_, fun q => absurd (by decide) q⟩) | (refine ac_get C.1 ?_; conv => whnf) | (refine ⟨_, C.1, Nat.le_of_ble_eq_true rfl, Nat.le_of_ble_eq_true rfl, Nat.le_of_ble_eq_true rfl, ?_⟩) | (refine ⟨Nat.le_of_ble_eq_true rfl, Nat.le_of_ble_eq_true rfl, Nat.le_of_ble_eq_true rfl, ?_⟩))
      refine c_whR C W (ho i rfl) hk rfl (fun h' C' F' => ?_)
      repeat (first | (refine hP _ _ _ _ _ _ ?_; conv => whnf) | (refine ⟨fun q => absurd q (by decide), fun _ => ?_⟩) | (refine ⟨fun _ => ?_, fun q => absurd (by decide) q⟩) | (refine ac_get C.1 ?_; conv => whnf) | (refine ⟨_, C.1, Nat.le_of_ble_eq_true rfl, Nat.le_of_ble_eq_true rfl, Nat.le_of_ble_eq_true rfl, ?_⟩) | (refine ⟨Nat.le_of_ble_eq_true rfl, Nat.le_of_ble_eq_true rfl, Nat.le_of_ble_eq_true rfl, ?_⟩))
      exact ⟨rfl, hbb, hQ _ ⟨_, _, _, _, C'⟩ F', by decide, by decide⟩
  have T : ∀ o, m_cf S f = o → (∀ j, o = some j → j < m_mk S) → P 38 [some (.ref x), some (.int (nI k)), some (.int f), none, none] [va_rf (c_oa ad o)] h 2 12 := by
    intro o eo ho
    cases o with
    | none =>
      repeat (first | (refine hP _ _ _ _ _ _ ?_; conv => whnf) | (refine ⟨fun q => absurd q (by decide), fun _ => ?_⟩) | (refine ⟨fun _ => ?_, fun q => absurd (by decide) q⟩) | (refine ac_get C.1 ?_; conv => whnf) | (refine ⟨_, C.1, Nat.le_of_ble_eq_true rfl, Nat.le_of_ble_eq_true rfl, Nat.le_of_ble_eq_true rfl, ?_⟩) | (refine ⟨Nat.le_of_ble_eq_true rfl, Nat.le_of_ble_eq_true rfl, Nat.le_of_ble_eq_true rfl, ?_⟩))
      refine c_hd C hk rfl (fun e => ?_) (fun j e => ?_)
      · iterate 4 (refine hP _ _ _ _ _ _ ?_; conv => whnf)
        exact T2 none 1 eo ho (if_pos e)
      · iterate 3 (refine hP _ _ _ _ _ _ ?_; conv => whnf)
        exact T2 none 0 eo ho (if_neg (by rw [e]; exact fun z => by cases z))
    | some i =>
      have hi := ho i rfl
      repeat (first | (refine hP _ _ _ _ _ _ ?_; conv => whnf) | (refine ⟨fun q => absurd q (by decide), fun _ => ?_⟩) | (refine ⟨fun _ => ?_, fun q => absurd (by decide) q⟩) | (refine ac_get C.1 ?_; conv => whnf) | (refine ⟨_, C.1, Nat.le_of_ble_eq_true rfl, Nat.le_of_ble_eq_true rfl, Nat.le_of_ble_eq_true rfl, ?_⟩) | (refine ⟨Nat.le_of_ble_eq_true rfl, Nat.le_of_ble_eq_true rfl, Nat.le_of_ble_eq_true rfl, ?_⟩))
      refine c_hd C hk rfl (fun e => ?_) (fun j e => ?_)
      · iterate 3 (refine hP _ _ _ _ _ _ ?_; conv => whnf)
        exact T2 (some i) 0 eo ho (if_neg (by rw [e]; exact fun z => by cases z))
      · have hj := W.2.1 k j hk e
        iterate 2 (refine hP _ _ _ _ _ _ ?_; conv => whnf)
        refine ⟨fun c => ?_, fun c => ?_⟩
        · iterate 1 (refine hP _ _ _ _ _ _ ?_; conv => whnf)
          exact T2 (some i) 0 eo ho (if_neg (by rw [e]; exact fun z => c (by cases z; rfl)))
        · iterate 2 (refine hP _ _ _ _ _ _ ?_; conv => whnf)
          exact T2 (some i) 1 eo ho (if_pos (by rw [e, c_adI C hj hi c]))
  iterate 2 (refine hP _ _ _ _ _ _ ?_; conv => whnf)
  (refine hP _ _ _ _ _ _ ?_; conv => whnf)
  refine ⟨fun q4 => ?_, fun q4 => ?_⟩
  · have q5 := i32_m1 q q4
    repeat (first | (refine hP _ _ _ _ _ _ ?_; conv => whnf) | (refine ⟨fun q => absurd q (by decide), fun _ => ?_⟩) | (refine ⟨fun _ => ?_, fun q => absurd (by decide) q⟩) | (refine ac_get C.1 ?_; conv => whnf) | (refine ⟨_, C.1, Nat.le_of_ble_eq_true rfl, Nat.le_of_ble_eq_true rfl, Nat.le_of_ble_eq_true rfl, ?_⟩) | (refine ⟨Nat.le_of_ble_eq_true rfl, Nat.le_of_ble_eq_true rfl, Nat.le_of_ble_eq_true rfl, ?_⟩))
    obtain ⟨t, ht, rfl⟩ := m_badN (i := f) (z := 8) (by decide) (fun z => z.elim q5 q2)
    refine c_hd C ht rfl (fun e => ?_) (fun j e => ?_)
    · exact T none (by unfold m_cf; rw [if_neg q5, nI_clamp (by omega)]; exact e) (fun j z => by cases z)
    · exact T (some j) (by unfold m_cf; rw [if_neg q5, nI_clamp (by omega)]; exact e) (fun j' z => by cases z; exact W.2.1 t j ht e)
  · have q5 : f = -1 := Classical.byContradiction q4
    subst q5
    iterate 2 (refine hP _ _ _ _ _ _ ?_; conv => whnf)
    exact T none (if_pos (by decide)) (fun j z => by cases z)
theorem c_vecOf (C : c_ch h Z x ad ow hd hf S) (W : m_wf S) {i : Nat} (hi : i < m_mk S) (h1 : m_kd S i ≤ 8 → Q (.inl (some (.ref (ad i)))) h) (h2 : ¬ m_kd S i ≤ 8 → Q (.inr 2) h) : T_X5_vectorOf [.ref (ad i)] h Q := by
  (intro P hP; conv => whnf)
  repeat (first | (refine hP _ _ _ _ _ _ ?_; conv => whnf) | (refine ⟨fun q => absurd q (by decide), fun _ => ?_⟩) | (refine ⟨fun _ => ?_, fun q => absurd (by decide) q⟩) | (refine ac_get C.1 ?_; conv => whnf) | (refine ⟨_, C.1, Nat.le_of_ble_eq_true rfl, Nat.le_of_ble_eq_true rfl, Nat.le_of_ble_eq_true rfl, ?_⟩) | (refine ⟨Nat.le_of_ble_eq_true rfl, Nat.le_of_ble_eq_true rfl, Nat.le_of_ble_eq_true rfl, ?_⟩))
  refine c_inst C W hi (fun c => ?_) (fun c => ?_)
  · have k8 : m_kd S i ≤ 8 := Classical.byContradiction (fun z => by
      unfold c_cl at c
      rw [if_neg z] at c
      split at c
      · cases c
      · split at c <;> cases c)
    obtain ⟨vn, vi, e, -⟩ := c_vec (C.2.2.2.1 i hi) k8
    repeat (first | (refine hP _ _ _ _ _ _ ?_; conv => whnf) | (refine ⟨fun q => absurd q (by decide), fun _ => ?_⟩) | (refine ⟨fun _ => ?_, fun q => absurd (by decide) q⟩) | (refine ac_get C.1 ?_; conv => whnf) | (refine ⟨_, C.1, Nat.le_of_ble_eq_true rfl, Nat.le_of_ble_eq_true rfl, Nat.le_of_ble_eq_true rfl, ?_⟩) | (refine ⟨Nat.le_of_ble_eq_true rfl, Nat.le_of_ble_eq_true rfl, Nat.le_of_ble_eq_true rfl, ?_⟩))
    refine ⟨_, e, ?_⟩
    repeat (first | (refine hP _ _ _ _ _ _ ?_; conv => whnf) | (refine ⟨fun q => absurd q (by decide), fun _ => ?_⟩) | (refine ⟨fun _ => ?_, fun q => absurd (by decide) q⟩) | (refine ac_get C.1 ?_; conv => whnf) | (refine ⟨_, C.1, Nat.le_of_ble_eq_true rfl, Nat.le_of_ble_eq_true rfl, Nat.le_of_ble_eq_true rfl, ?_⟩) | (refine ⟨Nat.le_of_ble_eq_true rfl, Nat.le_of_ble_eq_true rfl, Nat.le_of_ble_eq_true rfl, ?_⟩))
    refine sp_requireSupported (fun _ => ?_) (fun z => absurd z (by decide))
    repeat (first | (refine hP _ _ _ _ _ _ ?_; conv => whnf) | (refine ⟨fun q => absurd q (by decide), fun _ => ?_⟩) | (refine ⟨fun _ => ?_, fun q => absurd (by decide) q⟩) | (refine ac_get C.1 ?_; conv => whnf) | (refine ⟨_, C.1, Nat.le_of_ble_eq_true rfl, Nat.le_of_ble_eq_true rfl, Nat.le_of_ble_eq_true rfl, ?_⟩) | (refine ⟨Nat.le_of_ble_eq_true rfl, Nat.le_of_ble_eq_true rfl, Nat.le_of_ble_eq_true rfl, ?_⟩))
    exact ⟨rfl, h1 k8, by decide, by decide⟩
  · repeat (first | (refine hP _ _ _ _ _ _ ?_; conv => whnf) | (refine ⟨fun q => absurd q (by decide), fun _ => ?_⟩) | (refine ⟨fun _ => ?_, fun q => absurd (by decide) q⟩) | (refine ac_get C.1 ?_; conv => whnf) | (refine ⟨_, C.1, Nat.le_of_ble_eq_true rfl, Nat.le_of_ble_eq_true rfl, Nat.le_of_ble_eq_true rfl, ?_⟩) | (refine ⟨Nat.le_of_ble_eq_true rfl, Nat.le_of_ble_eq_true rfl, Nat.le_of_ble_eq_true rfl, ?_⟩))
    refine sp_requireSupported (fun z => absurd rfl z) (fun _ => ?_)
    refine ac_koX (by decide) ?_
    exact h2 (fun z => c (if_pos z))
theorem c_dropS (C : c_ch h Z x ad ow hd hf S) (W : m_wf S) {i : Nat} (hi : i < m_mk S) (hk : m_kd S i ≤ 8) {h' : ac_H} (e1 : h' (ad i) = some (.inl (6, [.int (nI (m_kd S i)), .null, .null]))) (e2 : ∀ b, b ≠ ad i → h' b = h b) : c_ch h' Z x ad ow hd hf (m_slo S (6 * i) true) ∧ c_fz Z h h' := by
  have a1 := (C.2.2.2.1 i hi).1
  refine c_mod (g := i) C W (fun _ _ => rfl) (fun b _ o => e2 b (fun z => o (by rw [z]; exact a1))) ?_ (fun j hj n => ?_) rfl rfl
  · have l : m_lo (m_slo S (6 * i) true) (6 * i) = true := va_upE
    refine ⟨a1, fun _ _ => e1, fun _ z => ?_, fun _ z => ?_, fun z => ?_, fun z => ?_, fun z => ?_⟩
    · rw [l] at z
      cases z
    · rw [l] at z
      cases z
    · exact absurd (show m_kd S i = 9 from z) (by omega)
    · exact absurd (show m_kd S i = 10 from z) (by omega)
    · exact absurd (show m_kd S i = 11 from z) (by omega)
  · exact ⟨rfl, rfl, rfl, rfl, rfl, rfl, fun t ht => va_upN (by omega), fun _ _ => rfl⟩
theorem c_loseSt (C : c_ch h Z x ad ow hd hf S) (W : m_wf S) {i : Nat} (hi : i < m_mk S) (hk : m_kd S i ≤ 8) (h1 : m_lo S (6 * i) = true → Q (.inr 1) h) (h2 : m_lo S (6 * i) = false → ∀ h', c_CH h' Z x (m_slo S (6 * i) true) → c_fz Z h h' → Q (.inl (some (.int (nI (m_ln S i))))) h') : T_X5_loseStorage [.ref (ad i)] h Q := by
  have A := C.2.2.2.1 i hi
  obtain ⟨vn, vi, e, -⟩ := c_vec A hk
  (intro P hP; conv => whnf)
  repeat (first | (refine hP _ _ _ _ _ _ ?_; conv => whnf) | (refine ⟨fun q => absurd q (by decide), fun _ => ?_⟩) | (refine ⟨fun _ => ?_, fun q => absurd (by decide) q⟩) | (refine ac_get C.1 ?_; conv => whnf) | (refine ⟨_, C.1, Nat.le_of_ble_eq_true rfl, Nat.le_of_ble_eq_true rfl, Nat.le_of_ble_eq_true rfl, ?_⟩) | (refine ⟨Nat.le_of_ble_eq_true rfl, Nat.le_of_ble_eq_true rfl, Nat.le_of_ble_eq_true rfl, ?_⟩))
  refine ⟨_, e, Nat.le_of_ble_eq_true rfl, Nat.le_of_ble_eq_true rfl, Nat.le_of_ble_eq_true rfl, ?_⟩
  refine c_lost A hk (fun l => ?_) (fun l => ?_)
  · repeat (first | (refine hP _ _ _ _ _ _ ?_; conv => whnf) | (refine ⟨fun q => absurd q (by decide), fun _ => ?_⟩) | (refine ⟨fun _ => ?_, fun q => absurd (by decide) q⟩) | (refine ac_get C.1 ?_; conv => whnf) | (refine ⟨_, C.1, Nat.le_of_ble_eq_true rfl, Nat.le_of_ble_eq_true rfl, Nat.le_of_ble_eq_true rfl, ?_⟩) | (refine ⟨Nat.le_of_ble_eq_true rfl, Nat.le_of_ble_eq_true rfl, Nat.le_of_ble_eq_true rfl, ?_⟩))
    refine sp_requirePresent (fun z => absurd rfl z) (fun _ => ?_)
    refine ac_koX (by decide) ?_
    exact h1 l
  · repeat (first | (refine hP _ _ _ _ _ _ ?_; conv => whnf) | (refine ⟨fun q => absurd q (by decide), fun _ => ?_⟩) | (refine ⟨fun _ => ?_, fun q => absurd (by decide) q⟩) | (refine ac_get C.1 ?_; conv => whnf) | (refine ⟨_, C.1, Nat.le_of_ble_eq_true rfl, Nat.le_of_ble_eq_true rfl, Nat.le_of_ble_eq_true rfl, ?_⟩) | (refine ⟨Nat.le_of_ble_eq_true rfl, Nat.le_of_ble_eq_true rfl, Nat.le_of_ble_eq_true rfl, ?_⟩))
    refine sp_requirePresent (fun _ => ?_) (fun z => absurd z (by decide))
    repeat (first | (refine hP _ _ _ _ _ _ ?_; conv => whnf) | (refine ⟨fun q => absurd q (by decide), fun _ => ?_⟩) | (refine ⟨fun _ => ?_, fun q => absurd (by decide) q⟩) | (refine ac_get C.1 ?_; conv => whnf) | (refine ⟨_, C.1, Nat.le_of_ble_eq_true rfl, Nat.le_of_ble_eq_true rfl, Nat.le_of_ble_eq_true rfl, ?_⟩) | (refine ⟨Nat.le_of_ble_eq_true rfl, Nat.le_of_ble_eq_true rfl, Nat.le_of_ble_eq_true rfl, ?_⟩))
    refine ⟨_, e, Nat.le_of_ble_eq_true rfl, Nat.le_of_ble_eq_true rfl, Nat.le_of_ble_eq_true rfl, ?_⟩
    refine c_len A hk l ?_
    repeat (first | (refine hP _ _ _ _ _ _ ?_; conv => whnf) | (refine ⟨fun q => absurd q (by decide), fun _ => ?_⟩) | (refine ⟨fun _ => ?_, fun q => absurd (by decide) q⟩) | (refine ac_get C.1 ?_; conv => whnf) | (refine ⟨_, C.1, Nat.le_of_ble_eq_true rfl, Nat.le_of_ble_eq_true rfl, Nat.le_of_ble_eq_true rfl, ?_⟩) | (refine ⟨Nat.le_of_ble_eq_true rfl, Nat.le_of_ble_eq_true rfl, Nat.le_of_ble_eq_true rfl, ?_⟩))
    refine ⟨_, e, Nat.le_of_ble_eq_true rfl, Nat.le_of_ble_eq_true rfl, Nat.le_of_ble_eq_true rfl, ?_⟩
    refine sp_X3_drop e (fun h' e1 e2 => ?_)
    obtain ⟨C', F'⟩ := c_dropS C W hi hk e1 e2
    repeat (first | (refine hP _ _ _ _ _ _ ?_; conv => whnf) | (refine ⟨fun q => absurd q (by decide), fun _ => ?_⟩) | (refine ⟨fun _ => ?_, fun q => absurd (by decide) q⟩) | (refine ac_get C.1 ?_; conv => whnf) | (refine ⟨_, C.1, Nat.le_of_ble_eq_true rfl, Nat.le_of_ble_eq_true rfl, Nat.le_of_ble_eq_true rfl, ?_⟩) | (refine ⟨Nat.le_of_ble_eq_true rfl, Nat.le_of_ble_eq_true rfl, Nat.le_of_ble_eq_true rfl, ?_⟩))
    exact ⟨rfl, h2 l _ ⟨_, _, _, _, C'⟩ F', by decide, by decide⟩
theorem c_loseRow (C : c_ch h Z x ad ow hd hf S) (W : m_wf S) {i : Nat} (hi : i < m_mk S) (k9 : m_kd S i = 9) {w : Int32} (h1 : m_bad w (m_ln S i) → Q (.inr 3) h) (h2 : ∀ t, t < m_ln S i → w = nI t → m_lo S (6 * i + t) = true → Q (.inr 1) h) (h3 : ∀ t, t < m_ln S i → w = nI t → m_lo S (6 * i + t) = false → ∀ h', c_CH h' Z x (m_slo S (6 * i + t) true) → c_fz Z h h' → Q (.inl (some (.int (nI (m_wd S i))))) h') : T_X5_loseRow [.ref (ad i), .int w] h Q := by
  have A := C.2.2.2.1 i hi
  obtain ⟨s, f, e1, e2, e3, e4⟩ := A.2.2.2.2.1 k9
  obtain ⟨l6, w4⟩ := (W.2.2 i hi).2.2.2.2.2.1 k9
  (intro P hP; conv => whnf)
  repeat (first | (refine hP _ _ _ _ _ _ ?_; conv => whnf) | (refine ⟨fun q => absurd q (by decide), fun _ => ?_⟩) | (refine ⟨fun _ => ?_, fun q => absurd (by decide) q⟩) | (refine ac_get C.1 ?_; conv => whnf) | (refine ⟨_, C.1, Nat.le_of_ble_eq_true rfl, Nat.le_of_ble_eq_true rfl, Nat.le_of_ble_eq_true rfl, ?_⟩) | (refine ⟨Nat.le_of_ble_eq_true rfl, Nat.le_of_ble_eq_true rfl, Nat.le_of_ble_eq_true rfl, ?_⟩))
  refine ac_get e1 ?_
  (conv => whnf)
  repeat (first | (refine hP _ _ _ _ _ _ ?_; conv => whnf) | (refine ⟨fun q => absurd q (by decide), fun _ => ?_⟩) | (refine ⟨fun _ => ?_, fun q => absurd (by decide) q⟩) | (refine ac_get C.1 ?_; conv => whnf) | (refine ⟨_, C.1, Nat.le_of_ble_eq_true rfl, Nat.le_of_ble_eq_true rfl, Nat.le_of_ble_eq_true rfl, ?_⟩) | (refine ⟨Nat.le_of_ble_eq_true rfl, Nat.le_of_ble_eq_true rfl, Nat.le_of_ble_eq_true rfl, ?_⟩))
  refine ⟨_, _, e3, ?_⟩
  repeat (first | (refine hP _ _ _ _ _ _ ?_; conv => whnf) | (refine ⟨fun q => absurd q (by decide), fun _ => ?_⟩) | (refine ⟨fun _ => ?_, fun q => absurd (by decide) q⟩) | (refine ac_get C.1 ?_; conv => whnf) | (refine ⟨_, C.1, Nat.le_of_ble_eq_true rfl, Nat.le_of_ble_eq_true rfl, Nat.le_of_ble_eq_true rfl, ?_⟩) | (refine ⟨Nat.le_of_ble_eq_true rfl, Nat.le_of_ble_eq_true rfl, Nat.le_of_ble_eq_true rfl, ?_⟩))
  refine sp_requireIndex (fun b1 b2 => ?_) (fun b => ?_)
  · obtain ⟨t, ht, et⟩ := m_badN (i := w) (z := m_ln S i) (by omega) (fun z => z.elim b1 (fun z => i32_lt_nle b2 z))
    obtain ⟨u1, u2⟩ := e4 t ht
    subst et
    repeat (first | (refine hP _ _ _ _ _ _ ?_; conv => whnf) | (refine ⟨fun q => absurd q (by decide), fun _ => ?_⟩) | (refine ⟨fun _ => ?_, fun q => absurd (by decide) q⟩) | (refine ac_get C.1 ?_; conv => whnf) | (refine ⟨_, C.1, Nat.le_of_ble_eq_true rfl, Nat.le_of_ble_eq_true rfl, Nat.le_of_ble_eq_true rfl, ?_⟩) | (refine ⟨Nat.le_of_ble_eq_true rfl, Nat.le_of_ble_eq_true rfl, Nat.le_of_ble_eq_true rfl, ?_⟩))
    refine ac_get e1 ?_
    (conv => whnf)
    repeat (first | (refine hP _ _ _ _ _ _ ?_; conv => whnf) | (refine ⟨fun q => absurd q (by decide), fun _ => ?_⟩) | (refine ⟨fun _ => ?_, fun q => absurd (by decide) q⟩) | (refine ac_get C.1 ?_; conv => whnf) | (refine ⟨_, C.1, Nat.le_of_ble_eq_true rfl, Nat.le_of_ble_eq_true rfl, Nat.le_of_ble_eq_true rfl, ?_⟩) | (refine ⟨Nat.le_of_ble_eq_true rfl, Nat.le_of_ble_eq_true rfl, Nat.le_of_ble_eq_true rfl, ?_⟩))
    refine ⟨_, _, e3, vp_in_nI ht (by omega), ?_⟩
    rw [nI_clamp (by omega)]
    cases l : m_lo S (6 * i + t) with
    | true =>
      rw [u1 l]
      refine ⟨fun _ => ?_, fun q z => by cases z⟩
      repeat (first | (refine hP _ _ _ _ _ _ ?_; conv => whnf) | (refine ⟨fun q => absurd q (by decide), fun _ => ?_⟩) | (refine ⟨fun _ => ?_, fun q => absurd (by decide) q⟩) | (refine ac_get C.1 ?_; conv => whnf) | (refine ⟨_, C.1, Nat.le_of_ble_eq_true rfl, Nat.le_of_ble_eq_true rfl, Nat.le_of_ble_eq_true rfl, ?_⟩) | (refine ⟨Nat.le_of_ble_eq_true rfl, Nat.le_of_ble_eq_true rfl, Nat.le_of_ble_eq_true rfl, ?_⟩))
      refine sp_requirePresent (fun z => absurd rfl z) (fun _ => ?_)
      refine ac_koX (by decide) ?_
      exact h2 t ht rfl l
    | false =>
      obtain ⟨v1, v2, g, v3, v4⟩ := u2 l
      rw [v1]
      refine ⟨fun z => (by cases z), fun q z => ?_⟩
      cases z
      repeat (first | (refine hP _ _ _ _ _ _ ?_; conv => whnf) | (refine ⟨fun q => absurd q (by decide), fun _ => ?_⟩) | (refine ⟨fun _ => ?_, fun q => absurd (by decide) q⟩) | (refine ac_get C.1 ?_; conv => whnf) | (refine ⟨_, C.1, Nat.le_of_ble_eq_true rfl, Nat.le_of_ble_eq_true rfl, Nat.le_of_ble_eq_true rfl, ?_⟩) | (refine ⟨Nat.le_of_ble_eq_true rfl, Nat.le_of_ble_eq_true rfl, Nat.le_of_ble_eq_true rfl, ?_⟩))
      refine sp_requirePresent (fun _ => ?_) (fun z => absurd z (by decide))
      repeat (first | (refine hP _ _ _ _ _ _ ?_; conv => whnf) | (refine ⟨fun q => absurd q (by decide), fun _ => ?_⟩) | (refine ⟨fun _ => ?_, fun q => absurd (by decide) q⟩) | (refine ac_get C.1 ?_; conv => whnf) | (refine ⟨_, C.1, Nat.le_of_ble_eq_true rfl, Nat.le_of_ble_eq_true rfl, Nat.le_of_ble_eq_true rfl, ?_⟩) | (refine ⟨Nat.le_of_ble_eq_true rfl, Nat.le_of_ble_eq_true rfl, Nat.le_of_ble_eq_true rfl, ?_⟩))
      refine ac_get e1 ?_
      (conv => whnf)
      repeat (first | (refine hP _ _ _ _ _ _ ?_; conv => whnf) | (refine ⟨fun q => absurd q (by decide), fun _ => ?_⟩) | (refine ⟨fun _ => ?_, fun q => absurd (by decide) q⟩) | (refine ac_get C.1 ?_; conv => whnf) | (refine ⟨_, C.1, Nat.le_of_ble_eq_true rfl, Nat.le_of_ble_eq_true rfl, Nat.le_of_ble_eq_true rfl, ?_⟩) | (refine ⟨Nat.le_of_ble_eq_true rfl, Nat.le_of_ble_eq_true rfl, Nat.le_of_ble_eq_true rfl, ?_⟩))
      refine ⟨_, _, e3, vp_in_nI ht (by omega), ?_⟩
      rw [nI_clamp (by omega), v1]
      refine ⟨fun z => (by cases z), fun q z => ?_⟩
      cases z
      repeat (first | (refine hP _ _ _ _ _ _ ?_; conv => whnf) | (refine ⟨fun q => absurd q (by decide), fun _ => ?_⟩) | (refine ⟨fun _ => ?_, fun q => absurd (by decide) q⟩) | (refine ac_get C.1 ?_; conv => whnf) | (refine ⟨_, C.1, Nat.le_of_ble_eq_true rfl, Nat.le_of_ble_eq_true rfl, Nat.le_of_ble_eq_true rfl, ?_⟩) | (refine ⟨Nat.le_of_ble_eq_true rfl, Nat.le_of_ble_eq_true rfl, Nat.le_of_ble_eq_true rfl, ?_⟩))
      refine ⟨_, _, v3, ?_⟩
      repeat (first | (refine hP _ _ _ _ _ _ ?_; conv => whnf) | (refine ⟨fun q => absurd q (by decide), fun _ => ?_⟩) | (refine ⟨fun _ => ?_, fun q => absurd (by decide) q⟩) | (refine ac_get C.1 ?_; conv => whnf) | (refine ⟨_, C.1, Nat.le_of_ble_eq_true rfl, Nat.le_of_ble_eq_true rfl, Nat.le_of_ble_eq_true rfl, ?_⟩) | (refine ⟨Nat.le_of_ble_eq_true rfl, Nat.le_of_ble_eq_true rfl, Nat.le_of_ble_eq_true rfl, ?_⟩))
      refine ac_get e1 ?_
      (conv => whnf)
      repeat (first | (refine hP _ _ _ _ _ _ ?_; conv => whnf) | (refine ⟨fun q => absurd q (by decide), fun _ => ?_⟩) | (refine ⟨fun _ => ?_, fun q => absurd (by decide) q⟩) | (refine ac_get C.1 ?_; conv => whnf) | (refine ⟨_, C.1, Nat.le_of_ble_eq_true rfl, Nat.le_of_ble_eq_true rfl, Nat.le_of_ble_eq_true rfl, ?_⟩) | (refine ⟨Nat.le_of_ble_eq_true rfl, Nat.le_of_ble_eq_true rfl, Nat.le_of_ble_eq_true rfl, ?_⟩))
      refine ⟨_, _, e3, vp_in_nI ht (by omega), ?_⟩
      rw [nI_clamp (by omega)]
      have ns : ad i ≠ s := fun z => by rw [z, e3] at e1; cases e1
      obtain ⟨C', F'⟩ : c_ch (ac_hs h s (.inr (4, m_ln S i, .inr (.inr (va_up f t none))))) Z x ad ow hd hf (m_slo S (6 * i + t) true) ∧ c_fz Z h (ac_hs h s (.inr (4, m_ln S i, .inr (.inr (va_up f t none))))) := by
        refine c_mod (g := i) C W (fun _ _ => rfl) (fun b _ o => ac_hsN (fun z => o (by rw [z]; exact e2))) ?_ (fun j hj n => ?_) rfl rfl
        · refine ⟨A.1, fun z => ?_, fun z => ?_, fun z => ?_, fun _ => ⟨s, _, (ac_hsN ns).trans e1, e2, ac_hsE, fun t' ht' => ?_⟩, fun z => ?_, fun z => ?_⟩
          · exact absurd (show m_kd S i ≤ 8 from z) (by omega)
          · exact absurd (show m_kd S i ≤ 7 from z) (by omega)
          · exact absurd (show m_kd S i = 8 from z) (by omega)
          · show (va_up (m_lo S) (6 * i + t) true (6 * i + t') = true → va_up f t none t' = none) ∧ (va_up (m_lo S) (6 * i + t) true (6 * i + t') = false → _)
            by_cases c : t' = t
            · subst c
              rw [va_upE, va_upE]
              exact ⟨fun _ => rfl, fun z => by cases z⟩
            · rw [va_upN (show 6 * i + t' ≠ 6 * i + t by omega), va_upN c]
              obtain ⟨u1, u2⟩ := e4 t' ht'
              refine ⟨u1, fun z => ?_⟩
              obtain ⟨v1, v2, g, v3, v4⟩ := u2 z
              exact ⟨v1, v2, g, (ac_hsN (by omega)).trans v3, v4⟩
          · exact absurd (show m_kd S i = 10 from z) (by omega)
          · exact absurd (show m_kd S i = 11 from z) (by omega)
        · exact ⟨rfl, rfl, rfl, rfl, rfl, rfl, fun t ht => va_upN (by omega), fun _ _ => rfl⟩
      repeat (first | (refine hP _ _ _ _ _ _ ?_; conv => whnf) | (refine ⟨fun q => absurd q (by decide), fun _ => ?_⟩) | (refine ⟨fun _ => ?_, fun q => absurd (by decide) q⟩) | (refine ac_get C.1 ?_; conv => whnf) | (refine ⟨_, C.1, Nat.le_of_ble_eq_true rfl, Nat.le_of_ble_eq_true rfl, Nat.le_of_ble_eq_true rfl, ?_⟩) | (refine ⟨Nat.le_of_ble_eq_true rfl, Nat.le_of_ble_eq_true rfl, Nat.le_of_ble_eq_true rfl, ?_⟩))
      exact ⟨rfl, h3 t ht rfl l _ ⟨_, _, _, _, C'⟩ F', by decide, by decide⟩
  · refine ac_koX (by decide) ?_
    exact h1 b
theorem C_lose (C : c_ch h Z x ad ow hd hf S) (W : m_wf S) {r w : Int32} (hQ : m_app (fun x' a S' => ∀ h', c_CH h' Z x S' → c_fz Z h h' → Q (m_out x' (some (.int a))) h') (f_lose S r w)) : T_X5_lose [.ref x, .int r, .int w] h Q := by
  have K0 : c_CH h Z x S := ⟨_, _, _, _, C⟩
  have F0 : c_fz Z h h := fun _ _ => rfl
  unfold f_lose at hQ
  (intro P hP; conv => whnf)
  repeat (first | (refine hP _ _ _ _ _ _ ?_; conv => whnf) | (refine ⟨fun q => absurd q (by decide), fun _ => ?_⟩) | (refine ⟨fun _ => ?_, fun q => absurd (by decide) q⟩) | (refine ac_get C.1 ?_; conv => whnf) | (refine ⟨_, C.1, Nat.le_of_ble_eq_true rfl, Nat.le_of_ble_eq_true rfl, Nat.le_of_ble_eq_true rfl, ?_⟩) | (refine ⟨Nat.le_of_ble_eq_true rfl, Nat.le_of_ble_eq_true rfl, Nat.le_of_ble_eq_true rfl, ?_⟩))
  refine c_rr (fun b => ?_) (fun k hk er => ?_)
  · rw [if_pos b] at hQ
    refine ac_koX (by decide) ?_
    exact hQ _ K0 F0
  subst er
  rw [if_neg (m_badG (by decide) hk), nI_clamp (by omega)] at hQ
  repeat (first | (refine hP _ _ _ _ _ _ ?_; conv => whnf) | (refine ⟨fun q => absurd q (by decide), fun _ => ?_⟩) | (refine ⟨fun _ => ?_, fun q => absurd (by decide) q⟩) | (refine ac_get C.1 ?_; conv => whnf) | (refine ⟨_, C.1, Nat.le_of_ble_eq_true rfl, Nat.le_of_ble_eq_true rfl, Nat.le_of_ble_eq_true rfl, ?_⟩) | (refine ⟨Nat.le_of_ble_eq_true rfl, Nat.le_of_ble_eq_true rfl, Nat.le_of_ble_eq_true rfl, ?_⟩))
  refine c_itemIn C hk (fun e => ?_) (fun i e => ?_)
  · rw [e] at hQ
    refine ac_koX (by decide) ?_
    exact hQ _ K0 F0
  rw [e] at hQ
  replace hQ : m_app _ (i_lose S w i) := hQ
  unfold i_lose at hQ
  have hi := W.2.1 k i hk e
  obtain ⟨w1, w2, w3, w4, w5, w6, w7, w8, w9, w10⟩ := W.2.2 i hi
  repeat (first | (refine hP _ _ _ _ _ _ ?_; conv => whnf) | (refine ⟨fun q => absurd q (by decide), fun _ => ?_⟩) | (refine ⟨fun _ => ?_, fun q => absurd (by decide) q⟩) | (refine ac_get C.1 ?_; conv => whnf) | (refine ⟨_, C.1, Nat.le_of_ble_eq_true rfl, Nat.le_of_ble_eq_true rfl, Nat.le_of_ble_eq_true rfl, ?_⟩) | (refine ⟨Nat.le_of_ble_eq_true rfl, Nat.le_of_ble_eq_true rfl, Nat.le_of_ble_eq_true rfl, ?_⟩))
  refine c_inst C W hi (fun c => ?_) (fun c => ?_)
  · have k9 : m_kd S i = 9 := by
      unfold c_cl at c
      split at c
      · cases c
      · split at c
        · assumption
        · split at c <;> cases c
    have A := C.2.2.2.1 i hi
    obtain ⟨s, f, e1, -⟩ := A.2.2.2.2.1 k9
    rw [if_neg (by omega), if_pos k9] at hQ
    repeat (first | (refine hP _ _ _ _ _ _ ?_; conv => whnf) | (refine ⟨fun q => absurd q (by decide), fun _ => ?_⟩) | (refine ⟨fun _ => ?_, fun q => absurd (by decide) q⟩) | (refine ac_get C.1 ?_; conv => whnf) | (refine ⟨_, C.1, Nat.le_of_ble_eq_true rfl, Nat.le_of_ble_eq_true rfl, Nat.le_of_ble_eq_true rfl, ?_⟩) | (refine ⟨Nat.le_of_ble_eq_true rfl, Nat.le_of_ble_eq_true rfl, Nat.le_of_ble_eq_true rfl, ?_⟩))
    refine ⟨_, e1, ?_⟩
    repeat (first | (refine hP _ _ _ _ _ _ ?_; conv => whnf) | (refine ⟨fun q => absurd q (by decide), fun _ => ?_⟩) | (refine ⟨fun _ => ?_, fun q => absurd (by decide) q⟩) | (refine ac_get C.1 ?_; conv => whnf) | (refine ⟨_, C.1, Nat.le_of_ble_eq_true rfl, Nat.le_of_ble_eq_true rfl, Nat.le_of_ble_eq_true rfl, ?_⟩) | (refine ⟨Nat.le_of_ble_eq_true rfl, Nat.le_of_ble_eq_true rfl, Nat.le_of_ble_eq_true rfl, ?_⟩))
    refine c_loseRow C W hi k9 (fun b => ?_) (fun t ht et l => ?_) (fun t ht et l h' C' F' => ?_)
    · rw [if_pos b] at hQ
      refine ac_koX (by decide) ?_
      exact hQ _ K0 F0
    · subst et
      rw [if_neg (m_badG (by omega) ht), nI_clamp (by omega), if_pos l] at hQ
      refine ac_koX (by decide) ?_
      exact hQ _ K0 F0
    · subst et
      rw [if_neg (m_badG (by omega) ht), nI_clamp (by omega), if_neg (by rw [l]; decide)] at hQ
      repeat (first | (refine hP _ _ _ _ _ _ ?_; conv => whnf) | (refine ⟨fun q => absurd q (by decide), fun _ => ?_⟩) | (refine ⟨fun _ => ?_, fun q => absurd (by decide) q⟩) | (refine ac_get C.1 ?_; conv => whnf) | (refine ⟨_, C.1, Nat.le_of_ble_eq_true rfl, Nat.le_of_ble_eq_true rfl, Nat.le_of_ble_eq_true rfl, ?_⟩) | (refine ⟨Nat.le_of_ble_eq_true rfl, Nat.le_of_ble_eq_true rfl, Nat.le_of_ble_eq_true rfl, ?_⟩))
      exact ⟨rfl, hQ _ C' F', by decide, by decide⟩
  · have k9 : ¬ m_kd S i = 9 := fun z => c (by rw [z]; rfl)
    repeat (first | (refine hP _ _ _ _ _ _ ?_; conv => whnf) | (refine ⟨fun q => absurd q (by decide), fun _ => ?_⟩) | (refine ⟨fun _ => ?_, fun q => absurd (by decide) q⟩) | (refine ac_get C.1 ?_; conv => whnf) | (refine ⟨_, C.1, Nat.le_of_ble_eq_true rfl, Nat.le_of_ble_eq_true rfl, Nat.le_of_ble_eq_true rfl, ?_⟩) | (refine ⟨Nat.le_of_ble_eq_true rfl, Nat.le_of_ble_eq_true rfl, Nat.le_of_ble_eq_true rfl, ?_⟩))
    refine c_vecOf C W hi (fun k8 => ?_) (fun k8 => ?_)
    · rw [if_neg (by omega), if_neg k9] at hQ
      repeat (first | (refine hP _ _ _ _ _ _ ?_; conv => whnf) | (refine ⟨fun q => absurd q (by decide), fun _ => ?_⟩) | (refine ⟨fun _ => ?_, fun q => absurd (by decide) q⟩) | (refine ac_get C.1 ?_; conv => whnf) | (refine ⟨_, C.1, Nat.le_of_ble_eq_true rfl, Nat.le_of_ble_eq_true rfl, Nat.le_of_ble_eq_true rfl, ?_⟩) | (refine ⟨Nat.le_of_ble_eq_true rfl, Nat.le_of_ble_eq_true rfl, Nat.le_of_ble_eq_true rfl, ?_⟩))
      refine c_loseSt C W hi k8 (fun l => ?_) (fun l h' C' F' => ?_)
      · rw [if_pos l] at hQ
        refine ac_koX (by decide) ?_
        exact hQ _ K0 F0
      · rw [if_neg (by rw [l]; decide)] at hQ
        repeat (first | (refine hP _ _ _ _ _ _ ?_; conv => whnf) | (refine ⟨fun q => absurd q (by decide), fun _ => ?_⟩) | (refine ⟨fun _ => ?_, fun q => absurd (by decide) q⟩) | (refine ac_get C.1 ?_; conv => whnf) | (refine ⟨_, C.1, Nat.le_of_ble_eq_true rfl, Nat.le_of_ble_eq_true rfl, Nat.le_of_ble_eq_true rfl, ?_⟩) | (refine ⟨Nat.le_of_ble_eq_true rfl, Nat.le_of_ble_eq_true rfl, Nat.le_of_ble_eq_true rfl, ?_⟩))
        exact ⟨rfl, hQ _ C' F', by decide, by decide⟩
    · rw [if_pos (by omega)] at hQ
      refine ac_koX (by decide) ?_
      exact hQ _ K0 F0
theorem C_size (C : c_ch h Z x ad ow hd hf S) (W : m_wf S) {r : Int32} (hQ : m_app (fun x' a S' => ∀ h', c_CH h' Z x S' → c_fz Z h h' → Q (m_out x' (some (.int a))) h') (f_size S r)) : T_X5_size [.ref x, .int r] h Q := by
  have K0 : c_CH h Z x S := ⟨_, _, _, _, C⟩
  have F0 : c_fz Z h h := fun _ _ => rfl
  unfold f_size at hQ
  (intro P hP; conv => whnf)
  repeat (first | (refine hP _ _ _ _ _ _ ?_; conv => whnf) | (refine ⟨fun q => absurd q (by decide), fun _ => ?_⟩) | (refine ⟨fun _ => ?_, fun q => absurd (by decide) q⟩) | (refine ac_get C.1 ?_; conv => whnf) | (refine ⟨_, C.1, Nat.le_of_ble_eq_true rfl, Nat.le_of_ble_eq_true rfl, Nat.le_of_ble_eq_true rfl, ?_⟩) | (refine ⟨Nat.le_of_ble_eq_true rfl, Nat.le_of_ble_eq_true rfl, Nat.le_of_ble_eq_true rfl, ?_⟩))
  refine c_rr (fun b => ?_) (fun k hk er => ?_)
  · rw [if_pos b] at hQ
    refine ac_koX (by decide) ?_
    exact hQ _ K0 F0
  subst er
  rw [if_neg (m_badG (by decide) hk), nI_clamp (by omega)] at hQ
  repeat (first | (refine hP _ _ _ _ _ _ ?_; conv => whnf) | (refine ⟨fun q => absurd q (by decide), fun _ => ?_⟩) | (refine ⟨fun _ => ?_, fun q => absurd (by decide) q⟩) | (refine ac_get C.1 ?_; conv => whnf) | (refine ⟨_, C.1, Nat.le_of_ble_eq_true rfl, Nat.le_of_ble_eq_true rfl, Nat.le_of_ble_eq_true rfl, ?_⟩) | (refine ⟨Nat.le_of_ble_eq_true rfl, Nat.le_of_ble_eq_true rfl, Nat.le_of_ble_eq_true rfl, ?_⟩))
  refine c_itemIn C hk (fun e => ?_) (fun i e => ?_)
  · rw [e] at hQ
    refine ac_koX (by decide) ?_
    exact hQ _ K0 F0
  rw [e] at hQ
  replace hQ : m_app _ (i_size S i) := hQ
  unfold i_size at hQ
  have hi := W.2.1 k i hk e
  obtain ⟨w1, w2, w3, w4, w5, w6, w7, w8, w9, w10⟩ := W.2.2 i hi
  repeat (first | (refine hP _ _ _ _ _ _ ?_; conv => whnf) | (refine ⟨fun q => absurd q (by decide), fun _ => ?_⟩) | (refine ⟨fun _ => ?_, fun q => absurd (by decide) q⟩) | (refine ac_get C.1 ?_; conv => whnf) | (refine ⟨_, C.1, Nat.le_of_ble_eq_true rfl, Nat.le_of_ble_eq_true rfl, Nat.le_of_ble_eq_true rfl, ?_⟩) | (refine ⟨Nat.le_of_ble_eq_true rfl, Nat.le_of_ble_eq_true rfl, Nat.le_of_ble_eq_true rfl, ?_⟩))
  refine c_inst C W hi (fun c => ?_) (fun c => ?_)
  · have k9 : m_kd S i = 9 := by
      unfold c_cl at c
      split at c
      · cases c
      · split at c
        · assumption
        · split at c <;> cases c
    have A := C.2.2.2.1 i hi
    obtain ⟨s, f, e1, e2, e3, e4⟩ := A.2.2.2.2.1 k9
    have hg := w9 (by omega)
    rw [if_neg (by omega), hg.1, if_neg (fun z => z.1 k9), hg.2.2, Int32.sub_zero] at hQ
    repeat (first | (refine hP _ _ _ _ _ _ ?_; conv => whnf) | (refine ⟨fun q => absurd q (by decide), fun _ => ?_⟩) | (refine ⟨fun _ => ?_, fun q => absurd (by decide) q⟩) | (refine ac_get C.1 ?_; conv => whnf) | (refine ⟨_, C.1, Nat.le_of_ble_eq_true rfl, Nat.le_of_ble_eq_true rfl, Nat.le_of_ble_eq_true rfl, ?_⟩) | (refine ⟨Nat.le_of_ble_eq_true rfl, Nat.le_of_ble_eq_true rfl, Nat.le_of_ble_eq_true rfl, ?_⟩))
    refine ⟨_, e1, ?_⟩
    repeat (first | (refine hP _ _ _ _ _ _ ?_; conv => whnf) | (refine ⟨fun q => absurd q (by decide), fun _ => ?_⟩) | (refine ⟨fun _ => ?_, fun q => absurd (by decide) q⟩) | (refine ac_get C.1 ?_; conv => whnf) | (refine ⟨_, C.1, Nat.le_of_ble_eq_true rfl, Nat.le_of_ble_eq_true rfl, Nat.le_of_ble_eq_true rfl, ?_⟩) | (refine ⟨Nat.le_of_ble_eq_true rfl, Nat.le_of_ble_eq_true rfl, Nat.le_of_ble_eq_true rfl, ?_⟩))
    refine ac_get e1 ?_
    (conv => whnf)
    repeat (first | (refine hP _ _ _ _ _ _ ?_; conv => whnf) | (refine ⟨fun q => absurd q (by decide), fun _ => ?_⟩) | (refine ⟨fun _ => ?_, fun q => absurd (by decide) q⟩) | (refine ac_get C.1 ?_; conv => whnf) | (refine ⟨_, C.1, Nat.le_of_ble_eq_true rfl, Nat.le_of_ble_eq_true rfl, Nat.le_of_ble_eq_true rfl, ?_⟩) | (refine ⟨Nat.le_of_ble_eq_true rfl, Nat.le_of_ble_eq_true rfl, Nat.le_of_ble_eq_true rfl, ?_⟩))
    refine ⟨_, _, e3, ?_⟩
    repeat (first | (refine hP _ _ _ _ _ _ ?_; conv => whnf) | (refine ⟨fun q => absurd q (by decide), fun _ => ?_⟩) | (refine ⟨fun _ => ?_, fun q => absurd (by decide) q⟩) | (refine ac_get C.1 ?_; conv => whnf) | (refine ⟨_, C.1, Nat.le_of_ble_eq_true rfl, Nat.le_of_ble_eq_true rfl, Nat.le_of_ble_eq_true rfl, ?_⟩) | (refine ⟨Nat.le_of_ble_eq_true rfl, Nat.le_of_ble_eq_true rfl, Nat.le_of_ble_eq_true rfl, ?_⟩))
    exact ⟨rfl, hQ _ K0 F0, by decide, by decide⟩
  · have k9 : ¬ m_kd S i = 9 := fun z => c (by rw [z]; rfl)
    repeat (first | (refine hP _ _ _ _ _ _ ?_; conv => whnf) | (refine ⟨fun q => absurd q (by decide), fun _ => ?_⟩) | (refine ⟨fun _ => ?_, fun q => absurd (by decide) q⟩) | (refine ac_get C.1 ?_; conv => whnf) | (refine ⟨_, C.1, Nat.le_of_ble_eq_true rfl, Nat.le_of_ble_eq_true rfl, Nat.le_of_ble_eq_true rfl, ?_⟩) | (refine ⟨Nat.le_of_ble_eq_true rfl, Nat.le_of_ble_eq_true rfl, Nat.le_of_ble_eq_true rfl, ?_⟩))
    by_cases k10 : m_kd S i = 10
    · rw [if_pos k10] at hQ
      refine c_groundN C W hi (Nat.le_of_ble_eq_true rfl) (Nat.le_of_ble_eq_true rfl) (Nat.le_of_ble_eq_true rfl) (Or.inr k10) ?_
      repeat (first | (refine hP _ _ _ _ _ _ ?_; conv => whnf) | (refine ⟨fun q => absurd q (by decide), fun _ => ?_⟩) | (refine ⟨fun _ => ?_, fun q => absurd (by decide) q⟩) | (refine ac_get C.1 ?_; conv => whnf) | (refine ⟨_, C.1, Nat.le_of_ble_eq_true rfl, Nat.le_of_ble_eq_true rfl, Nat.le_of_ble_eq_true rfl, ?_⟩) | (refine ⟨Nat.le_of_ble_eq_true rfl, Nat.le_of_ble_eq_true rfl, Nat.le_of_ble_eq_true rfl, ?_⟩))
      refine sp_requireSupported (fun z => absurd rfl z) (fun _ => ?_)
      refine ac_koX (by decide) ?_
      exact hQ _ K0 F0
    · rw [if_neg k10] at hQ
      refine c_groundU C W hi (Nat.le_of_ble_eq_true rfl) (Nat.le_of_ble_eq_true rfl) (Nat.le_of_ble_eq_true rfl) k9 k10 ?_
      have hk8 : m_kd S (m_gr S i) ≤ 8 := by
        by_cases c : m_kd S i = 11
        · exact (w10 c).2.2.2.2.2.2
        · rw [(w9 c).1]
          omega
      have A := C.2.2.2.1 _ w4
      obtain ⟨vn, vi, eg, -⟩ := c_vec A hk8
      repeat (first | (refine hP _ _ _ _ _ _ ?_; conv => whnf) | (refine ⟨fun q => absurd q (by decide), fun _ => ?_⟩) | (refine ⟨fun _ => ?_, fun q => absurd (by decide) q⟩) | (refine ac_get C.1 ?_; conv => whnf) | (refine ⟨_, C.1, Nat.le_of_ble_eq_true rfl, Nat.le_of_ble_eq_true rfl, Nat.le_of_ble_eq_true rfl, ?_⟩) | (refine ⟨Nat.le_of_ble_eq_true rfl, Nat.le_of_ble_eq_true rfl, Nat.le_of_ble_eq_true rfl, ?_⟩))
      refine sp_requireSupported (fun _ => ?_) (fun z => absurd z (by decide))
      repeat (first | (refine hP _ _ _ _ _ _ ?_; conv => whnf) | (refine ⟨fun q => absurd q (by decide), fun _ => ?_⟩) | (refine ⟨fun _ => ?_, fun q => absurd (by decide) q⟩) | (refine ac_get C.1 ?_; conv => whnf) | (refine ⟨_, C.1, Nat.le_of_ble_eq_true rfl, Nat.le_of_ble_eq_true rfl, Nat.le_of_ble_eq_true rfl, ?_⟩) | (refine ⟨Nat.le_of_ble_eq_true rfl, Nat.le_of_ble_eq_true rfl, Nat.le_of_ble_eq_true rfl, ?_⟩))
      refine ⟨_, eg, Nat.le_of_ble_eq_true rfl, Nat.le_of_ble_eq_true rfl, Nat.le_of_ble_eq_true rfl, ?_⟩
      refine c_lost A hk8 (fun l => ?_) (fun l => ?_)
      · rw [if_pos ⟨by omega, l⟩] at hQ
        repeat (first | (refine hP _ _ _ _ _ _ ?_; conv => whnf) | (refine ⟨fun q => absurd q (by decide), fun _ => ?_⟩) | (refine ⟨fun _ => ?_, fun q => absurd (by decide) q⟩) | (refine ac_get C.1 ?_; conv => whnf) | (refine ⟨_, C.1, Nat.le_of_ble_eq_true rfl, Nat.le_of_ble_eq_true rfl, Nat.le_of_ble_eq_true rfl, ?_⟩) | (refine ⟨Nat.le_of_ble_eq_true rfl, Nat.le_of_ble_eq_true rfl, Nat.le_of_ble_eq_true rfl, ?_⟩))
        refine sp_requirePresent (fun z => absurd rfl z) (fun _ => ?_)
        refine ac_koX (by decide) ?_
        exact hQ _ K0 F0
      · rw [if_neg (fun z => by rw [l] at z; cases z.2)] at hQ
        repeat (first | (refine hP _ _ _ _ _ _ ?_; conv => whnf) | (refine ⟨fun q => absurd q (by decide), fun _ => ?_⟩) | (refine ⟨fun _ => ?_, fun q => absurd (by decide) q⟩) | (refine ac_get C.1 ?_; conv => whnf) | (refine ⟨_, C.1, Nat.le_of_ble_eq_true rfl, Nat.le_of_ble_eq_true rfl, Nat.le_of_ble_eq_true rfl, ?_⟩) | (refine ⟨Nat.le_of_ble_eq_true rfl, Nat.le_of_ble_eq_true rfl, Nat.le_of_ble_eq_true rfl, ?_⟩))
        refine sp_requirePresent (fun _ => ?_) (fun z => absurd z (by decide))
        repeat (first | (refine hP _ _ _ _ _ _ ?_; conv => whnf) | (refine ⟨fun q => absurd q (by decide), fun _ => ?_⟩) | (refine ⟨fun _ => ?_, fun q => absurd (by decide) q⟩) | (refine ac_get C.1 ?_; conv => whnf) | (refine ⟨_, C.1, Nat.le_of_ble_eq_true rfl, Nat.le_of_ble_eq_true rfl, Nat.le_of_ble_eq_true rfl, ?_⟩) | (refine ⟨Nat.le_of_ble_eq_true rfl, Nat.le_of_ble_eq_true rfl, Nat.le_of_ble_eq_true rfl, ?_⟩))
        refine ⟨_, eg, Nat.le_of_ble_eq_true rfl, Nat.le_of_ble_eq_true rfl, Nat.le_of_ble_eq_true rfl, ?_⟩
        refine c_len A hk8 l ?_
        repeat (first | (refine hP _ _ _ _ _ _ ?_; conv => whnf) | (refine ⟨fun q => absurd q (by decide), fun _ => ?_⟩) | (refine ⟨fun _ => ?_, fun q => absurd (by decide) q⟩) | (refine ac_get C.1 ?_; conv => whnf) | (refine ⟨_, C.1, Nat.le_of_ble_eq_true rfl, Nat.le_of_ble_eq_true rfl, Nat.le_of_ble_eq_true rfl, ?_⟩) | (refine ⟨Nat.le_of_ble_eq_true rfl, Nat.le_of_ble_eq_true rfl, Nat.le_of_ble_eq_true rfl, ?_⟩))
        refine c_shiftU C W hi (Nat.le_of_ble_eq_true rfl) (Nat.le_of_ble_eq_true rfl) (Nat.le_of_ble_eq_true rfl) ?_
        repeat (first | (refine hP _ _ _ _ _ _ ?_; conv => whnf) | (refine ⟨fun q => absurd q (by decide), fun _ => ?_⟩) | (refine ⟨fun _ => ?_, fun q => absurd (by decide) q⟩) | (refine ac_get C.1 ?_; conv => whnf) | (refine ⟨_, C.1, Nat.le_of_ble_eq_true rfl, Nat.le_of_ble_eq_true rfl, Nat.le_of_ble_eq_true rfl, ?_⟩) | (refine ⟨Nat.le_of_ble_eq_true rfl, Nat.le_of_ble_eq_true rfl, Nat.le_of_ble_eq_true rfl, ?_⟩))
        exact ⟨rfl, hQ _ K0 F0, by decide, by decide⟩
theorem C_take (C : c_ch h Z x ad ow hd hf S) (W : m_wf S) {r ix : Int32} (hQ : m_app (fun x' a S' => ∀ h', c_CH h' Z x S' → c_fz Z h h' → Q (m_out x' (some (.long a))) h') (f_take S r ix)) : T_X5_take [.ref x, .int r, .int ix] h Q := by
  have K0 : c_CH h Z x S := ⟨_, _, _, _, C⟩
  have F0 : c_fz Z h h := fun _ _ => rfl
  unfold f_take at hQ
  (intro P hP; conv => whnf)
  repeat (first | (refine hP _ _ _ _ _ _ ?_; conv => whnf) | (refine ⟨fun q => absurd q (by decide), fun _ => ?_⟩) | (refine ⟨fun _ => ?_, fun q => absurd (by decide) q⟩) | (refine ac_get C.1 ?_; conv => whnf) | (refine ⟨_, C.1, Nat.le_of_ble_eq_true rfl, Nat.le_of_ble_eq_true rfl, Nat.le_of_ble_eq_true rfl, ?_⟩) | (refine ⟨Nat.le_of_ble_eq_true rfl, Nat.le_of_ble_eq_true rfl, Nat.le_of_ble_eq_true rfl, ?_⟩))
  refine c_rr (fun b => ?_) (fun k hk er => ?_)
  · rw [if_pos b] at hQ
    refine ac_koX (by decide) ?_
    exact hQ _ K0 F0
  subst er
  rw [if_neg (m_badG (by decide) hk), nI_clamp (by omega)] at hQ
  repeat (first | (refine hP _ _ _ _ _ _ ?_; conv => whnf) | (refine ⟨fun q => absurd q (by decide), fun _ => ?_⟩) | (refine ⟨fun _ => ?_, fun q => absurd (by decide) q⟩) | (refine ac_get C.1 ?_; conv => whnf) | (refine ⟨_, C.1, Nat.le_of_ble_eq_true rfl, Nat.le_of_ble_eq_true rfl, Nat.le_of_ble_eq_true rfl, ?_⟩) | (refine ⟨Nat.le_of_ble_eq_true rfl, Nat.le_of_ble_eq_true rfl, Nat.le_of_ble_eq_true rfl, ?_⟩))
  refine c_itemIn C hk (fun e => ?_) (fun i e => ?_)
  · rw [e] at hQ
    refine ac_koX (by decide) ?_
    exact hQ _ K0 F0
  rw [e] at hQ
  replace hQ : m_app _ (i_take S ix i) := hQ
  unfold i_take at hQ
  have hi := W.2.1 k i hk e
  have w5 := (W.2.2 i hi).2.2.2.2.1
  repeat (first | (refine hP _ _ _ _ _ _ ?_; conv => whnf) | (refine ⟨fun q => absurd q (by decide), fun _ => ?_⟩) | (refine ⟨fun _ => ?_, fun q => absurd (by decide) q⟩) | (refine ac_get C.1 ?_; conv => whnf) | (refine ⟨_, C.1, Nat.le_of_ble_eq_true rfl, Nat.le_of_ble_eq_true rfl, Nat.le_of_ble_eq_true rfl, ?_⟩) | (refine ⟨Nat.le_of_ble_eq_true rfl, Nat.le_of_ble_eq_true rfl, Nat.le_of_ble_eq_true rfl, ?_⟩))
  refine c_sortU C W hi (Nat.le_of_ble_eq_true rfl) (Nat.le_of_ble_eq_true rfl) (Nat.le_of_ble_eq_true rfl) ?_
  repeat (first | (refine hP _ _ _ _ _ _ ?_; conv => whnf) | (refine ⟨fun q => absurd q (by decide), fun _ => ?_⟩) | (refine ⟨fun _ => ?_, fun q => absurd (by decide) q⟩) | (refine ac_get C.1 ?_; conv => whnf) | (refine ⟨_, C.1, Nat.le_of_ble_eq_true rfl, Nat.le_of_ble_eq_true rfl, Nat.le_of_ble_eq_true rfl, ?_⟩) | (refine ⟨Nat.le_of_ble_eq_true rfl, Nat.le_of_ble_eq_true rfl, Nat.le_of_ble_eq_true rfl, ?_⟩))
  by_cases c7 : 7 < m_kd S (m_gr S i)
  · rw [if_pos c7] at hQ
    refine br_t (nI_lt (a := 7) c7 (by omega)) ?_
    repeat (first | (refine hP _ _ _ _ _ _ ?_; conv => whnf) | (refine ⟨fun q => absurd q (by decide), fun _ => ?_⟩) | (refine ⟨fun _ => ?_, fun q => absurd (by decide) q⟩) | (refine ac_get C.1 ?_; conv => whnf) | (refine ⟨_, C.1, Nat.le_of_ble_eq_true rfl, Nat.le_of_ble_eq_true rfl, Nat.le_of_ble_eq_true rfl, ?_⟩) | (refine ⟨Nat.le_of_ble_eq_true rfl, Nat.le_of_ble_eq_true rfl, Nat.le_of_ble_eq_true rfl, ?_⟩))
    refine sp_requireSupported (fun z => absurd rfl z) (fun _ => ?_)
    refine ac_koX (by decide) ?_
    exact hQ _ K0 F0
  · rw [if_neg c7] at hQ
    refine br_f (nI_nlt (b := m_kd S (m_gr S i)) (a := 7) (by omega) (by decide)) ?_
    repeat (first | (refine hP _ _ _ _ _ _ ?_; conv => whnf) | (refine ⟨fun q => absurd q (by decide), fun _ => ?_⟩) | (refine ⟨fun _ => ?_, fun q => absurd (by decide) q⟩) | (refine ac_get C.1 ?_; conv => whnf) | (refine ⟨_, C.1, Nat.le_of_ble_eq_true rfl, Nat.le_of_ble_eq_true rfl, Nat.le_of_ble_eq_true rfl, ?_⟩) | (refine ⟨Nat.le_of_ble_eq_true rfl, Nat.le_of_ble_eq_true rfl, Nat.le_of_ble_eq_true rfl, ?_⟩))
    refine sp_requireSupported (fun _ => ?_) (fun z => absurd z (by decide))
    repeat (first | (refine hP _ _ _ _ _ _ ?_; conv => whnf) | (refine ⟨fun q => absurd q (by decide), fun _ => ?_⟩) | (refine ⟨fun _ => ?_, fun q => absurd (by decide) q⟩) | (refine ac_get C.1 ?_; conv => whnf) | (refine ⟨_, C.1, Nat.le_of_ble_eq_true rfl, Nat.le_of_ble_eq_true rfl, Nat.le_of_ble_eq_true rfl, ?_⟩) | (refine ⟨Nat.le_of_ble_eq_true rfl, Nat.le_of_ble_eq_true rfl, Nat.le_of_ble_eq_true rfl, ?_⟩))
    refine c_take C W hi (by omega) (fun q => ?_) (fun q => ?_)
    · rw [if_neg q] at hQ
      refine ac_koX (c_x7 q) ?_
      have hx := hQ _ K0 F0
      rcases m_pl3 (S := S) (i := i) (ix := ix) with z | z | z
      · rw [z] at hx ⊢
        exact hx
      · rw [z] at hx ⊢
        exact hx
      · exact absurd z q
    · rw [if_pos q] at hQ
      repeat (first | (refine hP _ _ _ _ _ _ ?_; conv => whnf) | (refine ⟨fun q => absurd q (by decide), fun _ => ?_⟩) | (refine ⟨fun _ => ?_, fun q => absurd (by decide) q⟩) | (refine ac_get C.1 ?_; conv => whnf) | (refine ⟨_, C.1, Nat.le_of_ble_eq_true rfl, Nat.le_of_ble_eq_true rfl, Nat.le_of_ble_eq_true rfl, ?_⟩) | (refine ⟨Nat.le_of_ble_eq_true rfl, Nat.le_of_ble_eq_true rfl, Nat.le_of_ble_eq_true rfl, ?_⟩))
      exact ⟨rfl, hQ _ K0 F0, by decide, by decide⟩
theorem C_put (C : c_ch h Z x ad ow hd hf S) (W : m_wf S) {r ix : Int32} {v : Int64} (hQ : m_app (fun x' a S' => ∀ h', c_CH h' Z x S' → c_fz Z h h' → Q (m_out x' (some (.long a))) h') (f_put S r ix v)) : T_X5_put [.ref x, .int r, .int ix, .long v] h Q := by
  have K0 : c_CH h Z x S := ⟨_, _, _, _, C⟩
  have F0 : c_fz Z h h := fun _ _ => rfl
  unfold f_put at hQ
  (intro P hP; conv => whnf)
  repeat (first | (refine hP _ _ _ _ _ _ ?_; conv => whnf) | (refine ⟨fun q => absurd q (by decide), fun _ => ?_⟩) | (refine ⟨fun _ => ?_, fun q => absurd (by decide) q⟩) | (refine ac_get C.1 ?_; conv => whnf) | (refine ⟨_, C.1, Nat.le_of_ble_eq_true rfl, Nat.le_of_ble_eq_true rfl, Nat.le_of_ble_eq_true rfl, ?_⟩) | (refine ⟨Nat.le_of_ble_eq_true rfl, Nat.le_of_ble_eq_true rfl, Nat.le_of_ble_eq_true rfl, ?_⟩))
  refine c_rr (fun b => ?_) (fun k hk er => ?_)
  · rw [if_pos b] at hQ
    refine ac_koX (by decide) ?_
    exact hQ _ K0 F0
  subst er
  rw [if_neg (m_badG (by decide) hk), nI_clamp (by omega)] at hQ
  repeat (first | (refine hP _ _ _ _ _ _ ?_; conv => whnf) | (refine ⟨fun q => absurd q (by decide), fun _ => ?_⟩) | (refine ⟨fun _ => ?_, fun q => absurd (by decide) q⟩) | (refine ac_get C.1 ?_; conv => whnf) | (refine ⟨_, C.1, Nat.le_of_ble_eq_true rfl, Nat.le_of_ble_eq_true rfl, Nat.le_of_ble_eq_true rfl, ?_⟩) | (refine ⟨Nat.le_of_ble_eq_true rfl, Nat.le_of_ble_eq_true rfl, Nat.le_of_ble_eq_true rfl, ?_⟩))
  refine c_itemIn C hk (fun e => ?_) (fun i e => ?_)
  · rw [e] at hQ
    refine ac_koX (by decide) ?_
    exact hQ _ K0 F0
  rw [e] at hQ
  replace hQ : m_app _ (i_put S ix v i) := hQ
  unfold i_put at hQ
  have hi := W.2.1 k i hk e
  have w5 := (W.2.2 i hi).2.2.2.2.1
  repeat (first | (refine hP _ _ _ _ _ _ ?_; conv => whnf) | (refine ⟨fun q => absurd q (by decide), fun _ => ?_⟩) | (refine ⟨fun _ => ?_, fun q => absurd (by decide) q⟩) | (refine ac_get C.1 ?_; conv => whnf) | (refine ⟨_, C.1, Nat.le_of_ble_eq_true rfl, Nat.le_of_ble_eq_true rfl, Nat.le_of_ble_eq_true rfl, ?_⟩) | (refine ⟨Nat.le_of_ble_eq_true rfl, Nat.le_of_ble_eq_true rfl, Nat.le_of_ble_eq_true rfl, ?_⟩))
  refine c_sortU C W hi (Nat.le_of_ble_eq_true rfl) (Nat.le_of_ble_eq_true rfl) (Nat.le_of_ble_eq_true rfl) ?_
  repeat (first | (refine hP _ _ _ _ _ _ ?_; conv => whnf) | (refine ⟨fun q => absurd q (by decide), fun _ => ?_⟩) | (refine ⟨fun _ => ?_, fun q => absurd (by decide) q⟩) | (refine ac_get C.1 ?_; conv => whnf) | (refine ⟨_, C.1, Nat.le_of_ble_eq_true rfl, Nat.le_of_ble_eq_true rfl, Nat.le_of_ble_eq_true rfl, ?_⟩) | (refine ⟨Nat.le_of_ble_eq_true rfl, Nat.le_of_ble_eq_true rfl, Nat.le_of_ble_eq_true rfl, ?_⟩))
  by_cases c7 : 7 < m_kd S (m_gr S i)
  · rw [if_pos c7] at hQ
    refine br_t (nI_lt (a := 7) c7 (by omega)) ?_
    repeat (first | (refine hP _ _ _ _ _ _ ?_; conv => whnf) | (refine ⟨fun q => absurd q (by decide), fun _ => ?_⟩) | (refine ⟨fun _ => ?_, fun q => absurd (by decide) q⟩) | (refine ac_get C.1 ?_; conv => whnf) | (refine ⟨_, C.1, Nat.le_of_ble_eq_true rfl, Nat.le_of_ble_eq_true rfl, Nat.le_of_ble_eq_true rfl, ?_⟩) | (refine ⟨Nat.le_of_ble_eq_true rfl, Nat.le_of_ble_eq_true rfl, Nat.le_of_ble_eq_true rfl, ?_⟩))
    refine sp_requireSupported (fun z => absurd rfl z) (fun _ => ?_)
    refine ac_koX (by decide) ?_
    exact hQ _ K0 F0
  · rw [if_neg c7] at hQ
    refine br_f (nI_nlt (b := m_kd S (m_gr S i)) (a := 7) (by omega) (by decide)) ?_
    repeat (first | (refine hP _ _ _ _ _ _ ?_; conv => whnf) | (refine ⟨fun q => absurd q (by decide), fun _ => ?_⟩) | (refine ⟨fun _ => ?_, fun q => absurd (by decide) q⟩) | (refine ac_get C.1 ?_; conv => whnf) | (refine ⟨_, C.1, Nat.le_of_ble_eq_true rfl, Nat.le_of_ble_eq_true rfl, Nat.le_of_ble_eq_true rfl, ?_⟩) | (refine ⟨Nat.le_of_ble_eq_true rfl, Nat.le_of_ble_eq_true rfl, Nat.le_of_ble_eq_true rfl, ?_⟩))
    refine sp_requireSupported (fun _ => ?_) (fun z => absurd z (by decide))
    repeat (first | (refine hP _ _ _ _ _ _ ?_; conv => whnf) | (refine ⟨fun q => absurd q (by decide), fun _ => ?_⟩) | (refine ⟨fun _ => ?_, fun q => absurd (by decide) q⟩) | (refine ac_get C.1 ?_; conv => whnf) | (refine ⟨_, C.1, Nat.le_of_ble_eq_true rfl, Nat.le_of_ble_eq_true rfl, Nat.le_of_ble_eq_true rfl, ?_⟩) | (refine ⟨Nat.le_of_ble_eq_true rfl, Nat.le_of_ble_eq_true rfl, Nat.le_of_ble_eq_true rfl, ?_⟩))
    refine c_put C W hi (by omega) (fun q => ?_) (fun q h' C' F' => ?_)
    · rw [if_neg q] at hQ
      refine ac_koX (c_x7 q) ?_
      have hx := hQ _ K0 F0
      rcases m_pl3 (S := S) (i := i) (ix := ix) with z | z | z
      · rw [z] at hx ⊢
        exact hx
      · rw [z] at hx ⊢
        exact hx
      · exact absurd z q
    · rw [if_pos q] at hQ
      repeat (first | (refine hP _ _ _ _ _ _ ?_; conv => whnf) | (refine ⟨fun q => absurd q (by decide), fun _ => ?_⟩) | (refine ⟨fun _ => ?_, fun q => absurd (by decide) q⟩) | (refine ac_get C.1 ?_; conv => whnf) | (refine ⟨_, C.1, Nat.le_of_ble_eq_true rfl, Nat.le_of_ble_eq_true rfl, Nat.le_of_ble_eq_true rfl, ?_⟩) | (refine ⟨Nat.le_of_ble_eq_true rfl, Nat.le_of_ble_eq_true rfl, Nat.le_of_ble_eq_true rfl, ?_⟩))
      exact ⟨rfl, hQ _ ⟨_, _, _, _, C'⟩ F', by decide, by decide⟩
end CLF
