/-! ===== the class's small methods ===== -/
theorem c_vec {h : ac_H} {ad : Nat → Nat} {ow : Nat → Option Nat} {S : m_S} {i : Nat} (A : c_it h ad ow S i) (hk : m_kd S i ≤ 8) : ∃ vn vi : Option Nat, h (ad i) = some (.inl (6, [.int (nI (m_kd S i)), va_rf vn, va_rf vi])) ∧ (m_lo S (6 * i) = true → vn = none ∧ vi = none) ∧ (m_lo S (6 * i) = false → vn ≠ none ∨ vi ≠ none) := by
  obtain ⟨a1, a2, a3, a4, -⟩ := A
  cases l : m_lo S (6 * i) with
  | true => exact ⟨none, none, a2 hk l, fun _ => ⟨rfl, rfl⟩, fun z => (by cases z)⟩
  | false =>
    rcases Nat.lt_or_ge (m_kd S i) 8 with c | c
    · obtain ⟨s, f, q, -⟩ := a3 (by omega) l
      exact ⟨some s, none, q, fun z => (by cases z), fun _ => Or.inl (fun z => by cases z)⟩
    · have e : m_kd S i = 8 := by omega
      obtain ⟨s, f, q, -⟩ := a4 e l
      rw [e]
      exact ⟨none, some s, q, fun z => (by cases z), fun _ => Or.inr (fun z => by cases z)⟩
section CLB
variable {h : ac_H} {Z : Nat → Prop} {x : Nat} {ad : Nat → Nat} {ow : Nat → Option Nat} {hd : Nat} {hf : Nat → Option Nat} {S : m_S} {Q : ac_Q}
theorem c_lost {g : Nat} (A : c_it h ad ow S g) (hk : m_kd S g ≤ 8) (h1 : m_lo S (6 * g) = true → Q (.inl (some (.int 1))) h) (h2 : m_lo S (6 * g) = false → Q (.inl (some (.int 0))) h) : T_X3_isLost [.ref (ad g)] h Q := by
  obtain ⟨vn, vi, e, e1, e2⟩ := c_vec A hk
  refine sp_X3_isLost e (fun n1 n2 => ?_) (fun n => ?_)
  · cases l : m_lo S (6 * g) with
    | true => exact h1 l
    | false => exact absurd (e2 l) (fun z => z.elim (fun z => z n1) (fun z => z n2))
  · cases l : m_lo S (6 * g) with
    | true => exact absurd n (fun z => z.elim (fun z => z (e1 l).1) (fun z => z (e1 l).2))
    | false => exact h2 l
theorem c_len {g : Nat} (A : c_it h ad ow S g) (hk : m_kd S g ≤ 8) (l : m_lo S (6 * g) = false) (h1 : Q (.inl (some (.int (nI (m_ln S g))))) h) : T_X3_length [.ref (ad g)] h Q := by
  obtain ⟨a1, a2, a3, a4, -⟩ := A
  rcases Nat.lt_or_ge (m_kd S g) 8 with c | c
  · obtain ⟨s, f, q1, q2, q3, -⟩ := a3 (by omega) l
    exact sp_X3_lengthN q1 q3 h1
  · obtain ⟨s, f, q1, q2, q3, -⟩ := a4 (by omega) l
    exact sp_X3_lengthI q1 q3 h1
theorem c_sortU (C : c_ch h Z x ad ow hd hf S) (W : m_wf S) {i : Nat} (hi : i < m_mk S) {R : Room} {hh : List (Nat × Nat × Nat × Nat)} {pc nx : Nat} {P : ac_P} {lv : ac_V} {r : List Value} {k n : Nat} (h1 : (r.map fun v => v.category).sum ≤ 8) (h2 : k ≤ R.cells) (h3 : n ≤ R.slots) (K : P nx lv (.int (nI (m_kd S (m_gr S i))) :: r) h k n) : ∃ (cj : Nat) (fs : List Value), h (ad i) = some (.inl (cj, fs)) ∧ ac_vt [(4, T_X0_sort, rm_X0_sort), (5, T_X2_sort, rm_X2_sort), (6, T_X3_sort, rm_X3_sort), (7, T_X4_sort, rm_X4_sort)] cj (fun T rc => ac_call R hh pc nx T rc P Q lv [.ref (ad i)] r h k n) := by
  have A := C.2.2.2.1 i hi
  obtain ⟨w1, w2, w3, w4, w5, w6, w7, w8, w9, w10⟩ := W.2.2 i hi
  rcases (show m_kd S i ≤ 8 ∨ m_kd S i = 9 ∨ m_kd S i = 10 ∨ m_kd S i = 11 by omega) with c | c | c | c
  · obtain ⟨vn, vi, e, -⟩ := c_vec A c
    have hg := w9 (by omega)
    refine ⟨_, _, e, ?_⟩
    conv => whnf
    rw [hg.1] at K
    exact ⟨h1, h2, h3, sp_X3_sort e K⟩
  · obtain ⟨s, f, e, -⟩ := A.2.2.2.2.1 c
    have hg := w9 (by omega)
    refine ⟨_, _, e, ?_⟩
    conv => whnf
    rw [hg.1, c] at K
    exact ⟨h1, h2, h3, sp_X0_sort K⟩
  · have e := A.2.2.2.2.2.1 c
    have hg := w9 (by omega)
    refine ⟨_, _, e, ?_⟩
    conv => whnf
    rw [hg.1, c] at K
    exact ⟨h1, h2, h3, sp_X2_sort K⟩
  · have e := A.2.2.2.2.2.2 c
    obtain ⟨b1, b2, b3, b4, b5, b6, b7⟩ := w10 c
    refine ⟨_, _, e, ?_⟩
    conv => whnf
    obtain ⟨vn, vi, e2, -⟩ := c_vec (C.2.2.2.1 _ w4) b7
    exact ⟨h1, h2, h3, sp_X4_sort e e2 K⟩
theorem c_shiftU (C : c_ch h Z x ad ow hd hf S) (W : m_wf S) {i : Nat} (hi : i < m_mk S) {R : Room} {hh : List (Nat × Nat × Nat × Nat)} {pc nx : Nat} {P : ac_P} {lv : ac_V} {r : List Value} {k n : Nat} (h1 : (r.map fun v => v.category).sum ≤ 8) (h2 : k ≤ R.cells) (h3 : n ≤ R.slots) (K : P nx lv (.int (m_sh S i) :: r) h k n) : ∃ (cj : Nat) (fs : List Value), h (ad i) = some (.inl (cj, fs)) ∧ ac_vt [(4, T_X1_shift, rm_X1_shift), (5, T_X1_shift, rm_X1_shift), (6, T_X1_shift, rm_X1_shift), (7, T_X4_shift, rm_X4_shift)] cj (fun T rc => ac_call R hh pc nx T rc P Q lv [.ref (ad i)] r h k n) := by
  have A := C.2.2.2.1 i hi
  obtain ⟨w1, w2, w3, w4, w5, w6, w7, w8, w9, w10⟩ := W.2.2 i hi
  rcases (show m_kd S i ≤ 8 ∨ m_kd S i = 9 ∨ m_kd S i = 10 ∨ m_kd S i = 11 by omega) with c | c | c | c
  · obtain ⟨vn, vi, e, -⟩ := c_vec A c
    have hg := w9 (by omega)
    refine ⟨_, _, e, ?_⟩
    conv => whnf
    rw [hg.2.2] at K
    exact ⟨h1, h2, h3, sp_X1_shift K⟩
  · obtain ⟨s, f, e, -⟩ := A.2.2.2.2.1 c
    have hg := w9 (by omega)
    refine ⟨_, _, e, ?_⟩
    conv => whnf
    rw [hg.2.2] at K
    exact ⟨h1, h2, h3, sp_X1_shift K⟩
  · have e := A.2.2.2.2.2.1 c
    have hg := w9 (by omega)
    refine ⟨_, _, e, ?_⟩
    conv => whnf
    rw [hg.2.2] at K
    exact ⟨h1, h2, h3, sp_X1_shift K⟩
  · have e := A.2.2.2.2.2.2 c
    obtain ⟨b1, b2, b3, b4, b5, b6, b7⟩ := w10 c
    refine ⟨_, _, e, ?_⟩
    conv => whnf
    exact ⟨h1, h2, h3, sp_X4_shift e K⟩
theorem c_windowsU (C : c_ch h Z x ad ow hd hf S) (W : m_wf S) {i : Nat} (hi : i < m_mk S) {R : Room} {hh : List (Nat × Nat × Nat × Nat)} {pc nx : Nat} {P : ac_P} {lv : ac_V} {r : List Value} {k n : Nat} (h1 : (r.map fun v => v.category).sum ≤ 8) (h2 : k ≤ R.cells) (h3 : n ≤ R.slots) (K : P nx lv (.int (nI (m_dp S i)) :: r) h k n) : ∃ (cj : Nat) (fs : List Value), h (ad i) = some (.inl (cj, fs)) ∧ ac_vt [(4, T_X1_windows, rm_X1_windows), (5, T_X1_windows, rm_X1_windows), (6, T_X1_windows, rm_X1_windows), (7, T_X4_windows, rm_X4_windows)] cj (fun T rc => ac_call R hh pc nx T rc P Q lv [.ref (ad i)] r h k n) := by
  have A := C.2.2.2.1 i hi
  obtain ⟨w1, w2, w3, w4, w5, w6, w7, w8, w9, w10⟩ := W.2.2 i hi
  rcases (show m_kd S i ≤ 8 ∨ m_kd S i = 9 ∨ m_kd S i = 10 ∨ m_kd S i = 11 by omega) with c | c | c | c
  · obtain ⟨vn, vi, e, -⟩ := c_vec A c
    have hg := w9 (by omega)
    refine ⟨_, _, e, ?_⟩
    conv => whnf
    rw [hg.2.1] at K
    exact ⟨h1, h2, h3, sp_X1_windows K⟩
  · obtain ⟨s, f, e, -⟩ := A.2.2.2.2.1 c
    have hg := w9 (by omega)
    refine ⟨_, _, e, ?_⟩
    conv => whnf
    rw [hg.2.1] at K
    exact ⟨h1, h2, h3, sp_X1_windows K⟩
  · have e := A.2.2.2.2.2.1 c
    have hg := w9 (by omega)
    refine ⟨_, _, e, ?_⟩
    conv => whnf
    rw [hg.2.1] at K
    exact ⟨h1, h2, h3, sp_X1_windows K⟩
  · have e := A.2.2.2.2.2.2 c
    obtain ⟨b1, b2, b3, b4, b5, b6, b7⟩ := w10 c
    refine ⟨_, _, e, ?_⟩
    conv => whnf
    exact ⟨h1, h2, h3, sp_X4_windows e K⟩
theorem c_groundU (C : c_ch h Z x ad ow hd hf S) (W : m_wf S) {i : Nat} (hi : i < m_mk S) {R : Room} {hh : List (Nat × Nat × Nat × Nat)} {pc nx : Nat} {P : ac_P} {lv : ac_V} {r : List Value} {k n : Nat} (h1 : (r.map fun v => v.category).sum ≤ 8) (h2 : k ≤ R.cells) (h3 : n ≤ R.slots) (n9 : m_kd S i ≠ 9) (n10 : m_kd S i ≠ 10) (K : P nx lv (.ref (ad (m_gr S i)) :: r) h k n) : ∃ (cj : Nat) (fs : List Value), h (ad i) = some (.inl (cj, fs)) ∧ ac_vt [(4, T_X1_ground, rm_X1_ground), (5, T_X1_ground, rm_X1_ground), (6, T_X3_ground, rm_X3_ground), (7, T_X4_ground, rm_X4_ground)] cj (fun T rc => ac_call R hh pc nx T rc P Q lv [.ref (ad i)] r h k n) := by
  have A := C.2.2.2.1 i hi
  obtain ⟨w1, w2, w3, w4, w5, w6, w7, w8, w9, w10⟩ := W.2.2 i hi
  rcases (show m_kd S i ≤ 8 ∨ m_kd S i = 9 ∨ m_kd S i = 10 ∨ m_kd S i = 11 by omega) with c | c | c | c
  · obtain ⟨vn, vi, e, -⟩ := c_vec A c
    have hg := w9 (by omega)
    refine ⟨_, _, e, ?_⟩
    conv => whnf
    rw [hg.1] at K
    exact ⟨h1, h2, h3, sp_X3_ground K⟩
  · obtain ⟨s, f, e, -⟩ := A.2.2.2.2.1 c
    have hg := w9 (by omega)
    exact absurd c n9
  · have e := A.2.2.2.2.2.1 c
    have hg := w9 (by omega)
    exact absurd c n10
  · have e := A.2.2.2.2.2.2 c
    obtain ⟨b1, b2, b3, b4, b5, b6, b7⟩ := w10 c
    refine ⟨_, _, e, ?_⟩
    conv => whnf
    exact ⟨h1, h2, h3, sp_X4_ground e K⟩
theorem c_groundN (C : c_ch h Z x ad ow hd hf S) (W : m_wf S) {i : Nat} (hi : i < m_mk S) {R : Room} {hh : List (Nat × Nat × Nat × Nat)} {pc nx : Nat} {P : ac_P} {lv : ac_V} {r : List Value} {k n : Nat} (h1 : (r.map fun v => v.category).sum ≤ 8) (h2 : k ≤ R.cells) (h3 : n ≤ R.slots) (n9 : m_kd S i = 9 ∨ m_kd S i = 10) (K : P nx lv (.null :: r) h k n) : ∃ (cj : Nat) (fs : List Value), h (ad i) = some (.inl (cj, fs)) ∧ ac_vt [(4, T_X1_ground, rm_X1_ground), (5, T_X1_ground, rm_X1_ground), (6, T_X3_ground, rm_X3_ground), (7, T_X4_ground, rm_X4_ground)] cj (fun T rc => ac_call R hh pc nx T rc P Q lv [.ref (ad i)] r h k n) := by
  have A := C.2.2.2.1 i hi
  obtain ⟨w1, w2, w3, w4, w5, w6, w7, w8, w9, w10⟩ := W.2.2 i hi
  rcases (show m_kd S i ≤ 8 ∨ m_kd S i = 9 ∨ m_kd S i = 10 ∨ m_kd S i = 11 by omega) with c | c | c | c
  · obtain ⟨vn, vi, e, -⟩ := c_vec A c
    have hg := w9 (by omega)
    refine ⟨_, _, e, ?_⟩
    conv => whnf
    exact absurd n9 (by omega)
  · obtain ⟨s, f, e, -⟩ := A.2.2.2.2.1 c
    have hg := w9 (by omega)
    refine ⟨_, _, e, ?_⟩
    conv => whnf
    exact ⟨h1, h2, h3, sp_X1_ground K⟩
  · have e := A.2.2.2.2.2.1 c
    have hg := w9 (by omega)
    refine ⟨_, _, e, ?_⟩
    conv => whnf
    exact ⟨h1, h2, h3, sp_X1_ground K⟩
  · have e := A.2.2.2.2.2.2 c
    obtain ⟨b1, b2, b3, b4, b5, b6, b7⟩ := w10 c
    refine ⟨_, _, e, ?_⟩
    conv => whnf
    exact absurd n9 (by omega)
theorem c_hd (C : c_ch h Z x ad ow hd hf S) {k' : Nat} (hk : k' < 8) {xx : Int32} (hx : xx = nI k') {nx : Nat} {P : ac_P} {lv : ac_V} {r : List Value} {k n : Nat} (h1 : m_rg S k' = none → P nx lv (.null :: r) h k n) (h2 : ∀ i, m_rg S k' = some i → P nx lv (.ref (ad i) :: r) h k n) : ∃ (z : Nat) (f : Nat → Option Nat), h hd = some (.inr (3, z, .inr (.inr f))) ∧ vp_in xx z ∧ (f xx.toNatClampNeg = none → P nx lv (.null :: r) h k n) ∧ ∀ q, f xx.toNatClampNeg = some q → P nx lv (.ref q :: r) h k n := by
  subst hx
  refine ⟨_, _, C.2.1, vp_in_nI hk (by decide), ?_⟩
  rw [nI_clamp (by omega), C.2.2.1 k' hk]
  cases e : m_rg S k' with
  | none => exact ⟨fun _ => h1 e, fun q z => by cases z⟩
  | some i =>
    refine ⟨fun z => (by cases z), fun q z => ?_⟩
    have z2 : ad i = q := by
      injection z
    rw [← z2]
    exact h2 i e
theorem c_itemIn (C : c_ch h Z x ad ow hd hf S) {k : Nat} (hk : k < 8) (h1 : m_rg S k = none → Q (.inr 1) h) (h2 : ∀ i, m_rg S k = some i → Q (.inl (some (.ref (ad i)))) h) : T_X5_itemIn [.ref x, .int (nI k)] h Q := by
  (intro P hP; conv => whnf)
  repeat (first | (refine hP _ _ _ _ _ _ ?_; conv => whnf) | (refine ⟨fun q => absurd q (by decide), fun _ => ?_⟩) | (refine ⟨fun _ => ?_, fun q => absurd (by decide) q⟩) | (refine ac_get C.1 ?_; conv => whnf) | (refine ⟨_, C.1, Nat.le_of_ble_eq_true rfl, Nat.le_of_ble_eq_true rfl, Nat.le_of_ble_eq_true rfl, ?_⟩) | (refine ⟨Nat.le_of_ble_eq_true rfl, Nat.le_of_ble_eq_true rfl, Nat.le_of_ble_eq_true rfl, ?_⟩))
  refine c_hd C hk rfl (fun e => ?_) (fun i e => ?_)
  · repeat (first | (refine hP _ _ _ _ _ _ ?_; conv => whnf) | (refine ⟨fun q => absurd q (by decide), fun _ => ?_⟩) | (refine ⟨fun _ => ?_, fun q => absurd (by decide) q⟩) | (refine ac_get C.1 ?_; conv => whnf) | (refine ⟨_, C.1, Nat.le_of_ble_eq_true rfl, Nat.le_of_ble_eq_true rfl, Nat.le_of_ble_eq_true rfl, ?_⟩) | (refine ⟨Nat.le_of_ble_eq_true rfl, Nat.le_of_ble_eq_true rfl, Nat.le_of_ble_eq_true rfl, ?_⟩))
    refine sp_requirePresent (fun z => absurd rfl z) (fun _ => ?_)
    refine ac_koX (by decide) ?_
    exact h1 e
  · repeat (first | (refine hP _ _ _ _ _ _ ?_; conv => whnf) | (refine ⟨fun q => absurd q (by decide), fun _ => ?_⟩) | (refine ⟨fun _ => ?_, fun q => absurd (by decide) q⟩) | (refine ac_get C.1 ?_; conv => whnf) | (refine ⟨_, C.1, Nat.le_of_ble_eq_true rfl, Nat.le_of_ble_eq_true rfl, Nat.le_of_ble_eq_true rfl, ?_⟩) | (refine ⟨Nat.le_of_ble_eq_true rfl, Nat.le_of_ble_eq_true rfl, Nat.le_of_ble_eq_true rfl, ?_⟩))
    refine sp_requirePresent (fun _ => ?_) (fun z => absurd z (by decide))
    refine ac_koN ?_
    repeat (first | (refine hP _ _ _ _ _ _ ?_; conv => whnf) | (refine ⟨fun q => absurd q (by decide), fun _ => ?_⟩) | (refine ⟨fun _ => ?_, fun q => absurd (by decide) q⟩) | (refine ac_get C.1 ?_; conv => whnf) | (refine ⟨_, C.1, Nat.le_of_ble_eq_true rfl, Nat.le_of_ble_eq_true rfl, Nat.le_of_ble_eq_true rfl, ?_⟩) | (refine ⟨Nat.le_of_ble_eq_true rfl, Nat.le_of_ble_eq_true rfl, Nat.le_of_ble_eq_true rfl, ?_⟩))
    exact ⟨rfl, h2 i e, by decide, by decide⟩
theorem c_place (C : c_ch h Z x ad ow hd hf S) (W : m_wf S) {i : Nat} (hi : i < m_mk S) (hk : m_kd S (m_gr S i) ≤ 8) {ix : Int32} (h1 : ¬ (m_pl S i ix).1 = 7 → Q (.inr (m_pl S i ix).1) h) (h2 : (m_pl S i ix).1 = 7 → Q (.inl (some (.int (nI (m_pl S i ix).2)))) h) : T_X5_placeOf [.ref (ad i), .int ix] h Q := by
  obtain ⟨w1, w2, w3, w4, w5, w6, w7, w8, w9, w10⟩ := W.2.2 i hi
  have n9 : m_kd S i ≠ 9 := fun z => by rw [(w9 (by omega)).1] at hk; omega
  have n10 : m_kd S i ≠ 10 := fun z => by rw [(w9 (by omega)).1] at hk; omega
  have A := C.2.2.2.1 _ w4
  obtain ⟨vn, vi, eg, -⟩ := c_vec A hk
  (intro P hP; conv => whnf)
  repeat (first | (refine hP _ _ _ _ _ _ ?_; conv => whnf) | (refine ⟨fun q => absurd q (by decide), fun _ => ?_⟩) | (refine ⟨fun _ => ?_, fun q => absurd (by decide) q⟩) | (refine ac_get C.1 ?_; conv => whnf) | (refine ⟨_, C.1, Nat.le_of_ble_eq_true rfl, Nat.le_of_ble_eq_true rfl, Nat.le_of_ble_eq_true rfl, ?_⟩) | (refine ⟨Nat.le_of_ble_eq_true rfl, Nat.le_of_ble_eq_true rfl, Nat.le_of_ble_eq_true rfl, ?_⟩))
  refine c_groundU C W hi (Nat.le_of_ble_eq_true rfl) (Nat.le_of_ble_eq_true rfl) (Nat.le_of_ble_eq_true rfl) n9 n10 ?_
  repeat (first | (refine hP _ _ _ _ _ _ ?_; conv => whnf) | (refine ⟨fun q => absurd q (by decide), fun _ => ?_⟩) | (refine ⟨fun _ => ?_, fun q => absurd (by decide) q⟩) | (refine ac_get C.1 ?_; conv => whnf) | (refine ⟨_, C.1, Nat.le_of_ble_eq_true rfl, Nat.le_of_ble_eq_true rfl, Nat.le_of_ble_eq_true rfl, ?_⟩) | (refine ⟨Nat.le_of_ble_eq_true rfl, Nat.le_of_ble_eq_true rfl, Nat.le_of_ble_eq_true rfl, ?_⟩))
  refine c_shiftU C W hi (Nat.le_of_ble_eq_true rfl) (Nat.le_of_ble_eq_true rfl) (Nat.le_of_ble_eq_true rfl) ?_
  repeat (first | (refine hP _ _ _ _ _ _ ?_; conv => whnf) | (refine ⟨fun q => absurd q (by decide), fun _ => ?_⟩) | (refine ⟨fun _ => ?_, fun q => absurd (by decide) q⟩) | (refine ac_get C.1 ?_; conv => whnf) | (refine ⟨_, C.1, Nat.le_of_ble_eq_true rfl, Nat.le_of_ble_eq_true rfl, Nat.le_of_ble_eq_true rfl, ?_⟩) | (refine ⟨Nat.le_of_ble_eq_true rfl, Nat.le_of_ble_eq_true rfl, Nat.le_of_ble_eq_true rfl, ?_⟩))
  refine ⟨_, eg, Nat.le_of_ble_eq_true rfl, Nat.le_of_ble_eq_true rfl, Nat.le_of_ble_eq_true rfl, ?_⟩
  refine c_lost A hk (fun l => ?_) (fun l => ?_)
  · have e : m_pl S i ix = (1, 0) := if_pos l
    rw [e] at h1
    repeat (first | (refine hP _ _ _ _ _ _ ?_; conv => whnf) | (refine ⟨fun q => absurd q (by decide), fun _ => ?_⟩) | (refine ⟨fun _ => ?_, fun q => absurd (by decide) q⟩) | (refine ac_get C.1 ?_; conv => whnf) | (refine ⟨_, C.1, Nat.le_of_ble_eq_true rfl, Nat.le_of_ble_eq_true rfl, Nat.le_of_ble_eq_true rfl, ?_⟩) | (refine ⟨Nat.le_of_ble_eq_true rfl, Nat.le_of_ble_eq_true rfl, Nat.le_of_ble_eq_true rfl, ?_⟩))
    refine sp_requirePresent (fun z => absurd rfl z) (fun _ => ?_)
    refine ac_koX (by decide) ?_
    exact h1 (by decide)
  · repeat (first | (refine hP _ _ _ _ _ _ ?_; conv => whnf) | (refine ⟨fun q => absurd q (by decide), fun _ => ?_⟩) | (refine ⟨fun _ => ?_, fun q => absurd (by decide) q⟩) | (refine ac_get C.1 ?_; conv => whnf) | (refine ⟨_, C.1, Nat.le_of_ble_eq_true rfl, Nat.le_of_ble_eq_true rfl, Nat.le_of_ble_eq_true rfl, ?_⟩) | (refine ⟨Nat.le_of_ble_eq_true rfl, Nat.le_of_ble_eq_true rfl, Nat.le_of_ble_eq_true rfl, ?_⟩))
    refine sp_requirePresent (fun _ => ?_) (fun z => absurd z (by decide))
    refine ac_koN ?_
    repeat (first | (refine hP _ _ _ _ _ _ ?_; conv => whnf) | (refine ⟨fun q => absurd q (by decide), fun _ => ?_⟩) | (refine ⟨fun _ => ?_, fun q => absurd (by decide) q⟩) | (refine ac_get C.1 ?_; conv => whnf) | (refine ⟨_, C.1, Nat.le_of_ble_eq_true rfl, Nat.le_of_ble_eq_true rfl, Nat.le_of_ble_eq_true rfl, ?_⟩) | (refine ⟨Nat.le_of_ble_eq_true rfl, Nat.le_of_ble_eq_true rfl, Nat.le_of_ble_eq_true rfl, ?_⟩))
    refine ⟨_, eg, Nat.le_of_ble_eq_true rfl, Nat.le_of_ble_eq_true rfl, Nat.le_of_ble_eq_true rfl, ?_⟩
    refine c_len A hk l ?_
    repeat (first | (refine hP _ _ _ _ _ _ ?_; conv => whnf) | (refine ⟨fun q => absurd q (by decide), fun _ => ?_⟩) | (refine ⟨fun _ => ?_, fun q => absurd (by decide) q⟩) | (refine ac_get C.1 ?_; conv => whnf) | (refine ⟨_, C.1, Nat.le_of_ble_eq_true rfl, Nat.le_of_ble_eq_true rfl, Nat.le_of_ble_eq_true rfl, ?_⟩) | (refine ⟨Nat.le_of_ble_eq_true rfl, Nat.le_of_ble_eq_true rfl, Nat.le_of_ble_eq_true rfl, ?_⟩))
    refine sp_requireIndex (fun b1 b2 => ?_) (fun b => ?_)
    · have b : ¬ m_bad (m_sh S i + ix) (m_ln S (m_gr S i)) := fun z => z.elim b1 (fun z => i32_lt_nle b2 z)
      have e : m_pl S i ix = (7, (m_sh S i + ix).toNatClampNeg) := (if_neg (by rw [l]; decide)).trans (if_neg b)
      have e7 : (m_pl S i ix).1 = 7 := by rw [e]
      have p3 := (m_pl7 W hi e7).2.2
      refine ac_koN ?_
      repeat (first | (refine hP _ _ _ _ _ _ ?_; conv => whnf) | (refine ⟨fun q => absurd q (by decide), fun _ => ?_⟩) | (refine ⟨fun _ => ?_, fun q => absurd (by decide) q⟩) | (refine ac_get C.1 ?_; conv => whnf) | (refine ⟨_, C.1, Nat.le_of_ble_eq_true rfl, Nat.le_of_ble_eq_true rfl, Nat.le_of_ble_eq_true rfl, ?_⟩) | (refine ⟨Nat.le_of_ble_eq_true rfl, Nat.le_of_ble_eq_true rfl, Nat.le_of_ble_eq_true rfl, ?_⟩))
      refine ⟨rfl, ?_, by decide, by decide⟩
      have h3 := h2 e7
      rw [← p3] at h3
      exact h3
    · have e : m_pl S i ix = (3, 0) := (if_neg (by rw [l]; decide)).trans (if_pos b)
      rw [e] at h1
      refine ac_koX (by decide) ?_
      exact h1 (by decide)
theorem c_x7 {i : Nat} {ix : Int32} (q : ¬ (m_pl S i ix).1 = 7) : (m_pl S i ix).1 < 7 := by
  rcases m_pl3 (S := S) (i := i) (ix := ix) with z | z | z
  · rw [z]; decide
  · rw [z]; decide
  · exact absurd z q
theorem c_take (C : c_ch h Z x ad ow hd hf S) (W : m_wf S) {i : Nat} (hi : i < m_mk S) (hk : m_kd S (m_gr S i) ≤ 7) {ix : Int32} (h1 : ¬ (m_pl S i ix).1 = 7 → Q (.inr (m_pl S i ix).1) h) (h2 : (m_pl S i ix).1 = 7 → Q (.inl (some (.long (m_st S (24 * m_gr S i + (m_pl S i ix).2))))) h) : T_X5_takeElement [.ref (ad i), .int ix] h Q := by
  obtain ⟨w1, w2, w3, w4, w5, w6, w7, w8, w9, w10⟩ := W.2.2 i hi
  have n9 : m_kd S i ≠ 9 := fun z => by rw [(w9 (by omega)).1] at hk; omega
  have n10 : m_kd S i ≠ 10 := fun z => by rw [(w9 (by omega)).1] at hk; omega
  have A := C.2.2.2.1 _ w4
  (intro P hP; conv => whnf)
  repeat (first | (refine hP _ _ _ _ _ _ ?_; conv => whnf) | (refine ⟨fun q => absurd q (by decide), fun _ => ?_⟩) | (refine ⟨fun _ => ?_, fun q => absurd (by decide) q⟩) | (refine ac_get C.1 ?_; conv => whnf) | (refine ⟨_, C.1, Nat.le_of_ble_eq_true rfl, Nat.le_of_ble_eq_true rfl, Nat.le_of_ble_eq_true rfl, ?_⟩) | (refine ⟨Nat.le_of_ble_eq_true rfl, Nat.le_of_ble_eq_true rfl, Nat.le_of_ble_eq_true rfl, ?_⟩))
  refine c_place C W hi (by omega) (fun q => ?_) (fun q => ?_)
  · refine ac_koX (c_x7 q) ?_
    exact h1 q
  · obtain ⟨p1, p2, p3⟩ := m_pl7 W hi q
    obtain ⟨s, f, q1, q2, q3, q4⟩ := A.2.2.1 hk p1
    have h24 := (W.2.2 _ w4).2.1
    repeat (first | (refine hP _ _ _ _ _ _ ?_; conv => whnf) | (refine ⟨fun q => absurd q (by decide), fun _ => ?_⟩) | (refine ⟨fun _ => ?_, fun q => absurd (by decide) q⟩) | (refine ac_get C.1 ?_; conv => whnf) | (refine ⟨_, C.1, Nat.le_of_ble_eq_true rfl, Nat.le_of_ble_eq_true rfl, Nat.le_of_ble_eq_true rfl, ?_⟩) | (refine ⟨Nat.le_of_ble_eq_true rfl, Nat.le_of_ble_eq_true rfl, Nat.le_of_ble_eq_true rfl, ?_⟩))
    refine c_groundU C W hi (Nat.le_of_ble_eq_true rfl) (Nat.le_of_ble_eq_true rfl) (Nat.le_of_ble_eq_true rfl) n9 n10 ?_
    repeat (first | (refine hP _ _ _ _ _ _ ?_; conv => whnf) | (refine ⟨fun q => absurd q (by decide), fun _ => ?_⟩) | (refine ⟨fun _ => ?_, fun q => absurd (by decide) q⟩) | (refine ac_get C.1 ?_; conv => whnf) | (refine ⟨_, C.1, Nat.le_of_ble_eq_true rfl, Nat.le_of_ble_eq_true rfl, Nat.le_of_ble_eq_true rfl, ?_⟩) | (refine ⟨Nat.le_of_ble_eq_true rfl, Nat.le_of_ble_eq_true rfl, Nat.le_of_ble_eq_true rfl, ?_⟩))
    refine ac_get q1 ?_
    (conv => whnf)
    repeat (first | (refine hP _ _ _ _ _ _ ?_; conv => whnf) | (refine ⟨fun q => absurd q (by decide), fun _ => ?_⟩) | (refine ⟨fun _ => ?_, fun q => absurd (by decide) q⟩) | (refine ac_get C.1 ?_; conv => whnf) | (refine ⟨_, C.1, Nat.le_of_ble_eq_true rfl, Nat.le_of_ble_eq_true rfl, Nat.le_of_ble_eq_true rfl, ?_⟩) | (refine ⟨Nat.le_of_ble_eq_true rfl, Nat.le_of_ble_eq_true rfl, Nat.le_of_ble_eq_true rfl, ?_⟩))
    refine ⟨_, _, q3, vp_in_nI p2 (by omega), ?_⟩
    rw [nI_clamp (by omega), q4 _ p2]
    repeat (first | (refine hP _ _ _ _ _ _ ?_; conv => whnf) | (refine ⟨fun q => absurd q (by decide), fun _ => ?_⟩) | (refine ⟨fun _ => ?_, fun q => absurd (by decide) q⟩) | (refine ac_get C.1 ?_; conv => whnf) | (refine ⟨_, C.1, Nat.le_of_ble_eq_true rfl, Nat.le_of_ble_eq_true rfl, Nat.le_of_ble_eq_true rfl, ?_⟩) | (refine ⟨Nat.le_of_ble_eq_true rfl, Nat.le_of_ble_eq_true rfl, Nat.le_of_ble_eq_true rfl, ?_⟩))
    exact ⟨rfl, h2 q, by decide, by decide⟩
theorem c_chr (v : Int64) : (v.toInt32.toUInt32 % 65536).toInt32.toInt64 = v &&& 65535 := by
  apply Int64.toBitVec_inj.mp
  apply BitVec.eq_of_toNat_eq
  have h1 : (v &&& 65535).toBitVec.toNat = v.toBitVec.toNat % 65536 := by
    rw [Int64.toBitVec_and, BitVec.toNat_and, show (65535 : Int64).toBitVec.toNat = 2 ^ 16 - 1 by decide, Nat.and_two_pow_sub_one_eq_mod]
  have h2 : (v.toInt32.toUInt32 % 65536).toNat = v.toBitVec.toNat % 65536 := by
    rw [UInt32.toNat_mod, show (65536 : UInt32).toNat = 65536 by decide]
    have : v.toInt32.toUInt32.toNat = v.toBitVec.toNat % 2 ^ 32 := by
      show (v.toBitVec.signExtend 32).toNat = _
      rw [BitVec.signExtend_eq_setWidth_of_le _ (by decide), BitVec.toNat_setWidth]
    rw [this]
    omega
  rw [h1]
  have h3 : (v.toInt32.toUInt32 % 65536).toInt32.toInt = ((v.toBitVec.toNat % 65536 : Nat) : Int) := by
    show (v.toInt32.toUInt32 % 65536).toBitVec.toInt = _
    rw [BitVec.toInt_eq_toNat_of_lt]
    · exact congrArg Int.ofNat h2
    · show 2 * (v.toInt32.toUInt32 % 65536).toNat < _
      rw [h2]
      omega
  have h4 : (v.toInt32.toUInt32 % 65536).toInt32.toInt64.toBitVec.toInt = ((v.toBitVec.toNat % 65536 : Nat) : Int) := by
    rw [Int64.toInt_toBitVec, Int32.toInt_toInt64, h3]
  have h5 := BitVec.toInt_eq_toNat_bmod ((v.toInt32.toUInt32 % 65536).toInt32.toInt64.toBitVec)
  rw [h4] at h5
  have h6 := ((v.toInt32.toUInt32 % 65536).toInt32.toInt64.toBitVec).isLt
  rw [Int.bmod_def] at h5
  split at h5 <;> omega
theorem c_fit {s : Nat} {v : Int64} (hs : s ≤ 7) (h1 : Q (.inl (some (.long (m_fit s v)))) h) : T_X5_fitted [.int (nI s), .long v] h Q := by
  match s, hs with
  | 0, _ =>
    (intro P hP; conv => whnf)
    repeat (first | (refine hP _ _ _ _ _ _ ?_; conv => whnf) | (refine ⟨fun q => absurd q (by decide), fun _ => ?_⟩) | (refine ⟨fun _ => ?_, fun q => absurd (by decide) q⟩) | (refine ⟨_, by assumption, ?_⟩; conv => whnf))
    refine ⟨?_, fun z => absurd z (by decide)⟩
    (conv => whnf)
    refine ⟨fun _ => ?_, ?_⟩
    · repeat (first | (refine hP _ _ _ _ _ _ ?_; conv => whnf) | (refine ⟨fun q => absurd q (by decide), fun _ => ?_⟩) | (refine ⟨fun _ => ?_, fun q => absurd (by decide) q⟩) | (refine ⟨_, by assumption, ?_⟩; conv => whnf))
      refine ⟨fun q => ?_, fun q => ?_⟩
      · repeat (first | (refine hP _ _ _ _ _ _ ?_; conv => whnf) | (refine ⟨fun q => absurd q (by decide), fun _ => ?_⟩) | (refine ⟨fun _ => ?_, fun q => absurd (by decide) q⟩) | (refine ⟨_, by assumption, ?_⟩; conv => whnf))
        have e : m_fit 0 v = 0 := if_pos (lg_cmp0.mp q)
        rw [e] at h1
        exact ⟨rfl, h1, by decide, by decide⟩
      · repeat (first | (refine hP _ _ _ _ _ _ ?_; conv => whnf) | (refine ⟨fun q => absurd q (by decide), fun _ => ?_⟩) | (refine ⟨fun _ => ?_, fun q => absurd (by decide) q⟩) | (refine ⟨_, by assumption, ?_⟩; conv => whnf))
        have e : m_fit 0 v = 1 := if_neg (fun z => q (lg_cmp0.mpr z))
        rw [e] at h1
        exact ⟨rfl, h1, by decide, by decide⟩
    · (conv => whnf)
      refine ⟨fun z => absurd z (by decide), ?_⟩
      (conv => whnf)
      refine ⟨fun z => absurd z (by decide), ?_⟩
      (conv => whnf)
      refine ⟨fun z => absurd z (by decide), ?_⟩
      (conv => whnf)
      refine ⟨fun z => absurd z (by decide), ?_⟩
      (conv => whnf)
      refine ⟨fun z => absurd z (by decide), ?_⟩
      (conv => whnf)
      refine ⟨fun z => absurd z (by decide), ?_⟩
      (conv => whnf)
      refine ⟨fun z => absurd z (by decide), ?_⟩
      exact True.intro
  | 1, _ =>
    (intro P hP; conv => whnf)
    repeat (first | (refine hP _ _ _ _ _ _ ?_; conv => whnf) | (refine ⟨fun q => absurd q (by decide), fun _ => ?_⟩) | (refine ⟨fun _ => ?_, fun q => absurd (by decide) q⟩) | (refine ⟨_, by assumption, ?_⟩; conv => whnf))
    refine ⟨?_, fun z => absurd z (by decide)⟩
    (conv => whnf)
    refine ⟨fun z => absurd z (by decide), ?_⟩
    (conv => whnf)
    refine ⟨fun _ => ?_, ?_⟩
    · repeat (first | (refine hP _ _ _ _ _ _ ?_; conv => whnf) | (refine ⟨fun q => absurd q (by decide), fun _ => ?_⟩) | (refine ⟨fun _ => ?_, fun q => absurd (by decide) q⟩) | (refine ⟨_, by assumption, ?_⟩; conv => whnf))
      exact ⟨rfl, h1, by decide, by decide⟩
    · (conv => whnf)
      refine ⟨fun z => absurd z (by decide), ?_⟩
      (conv => whnf)
      refine ⟨fun z => absurd z (by decide), ?_⟩
      (conv => whnf)
      refine ⟨fun z => absurd z (by decide), ?_⟩
      (conv => whnf)
      refine ⟨fun z => absurd z (by decide), ?_⟩
      (conv => whnf)
      refine ⟨fun z => absurd z (by decide), ?_⟩
      (conv => whnf)
      refine ⟨fun z => absurd z (by decide), ?_⟩
      exact True.intro
  | 2, _ =>
    (intro P hP; conv => whnf)
    repeat (first | (refine hP _ _ _ _ _ _ ?_; conv => whnf) | (refine ⟨fun q => absurd q (by decide), fun _ => ?_⟩) | (refine ⟨fun _ => ?_, fun q => absurd (by decide) q⟩) | (refine ⟨_, by assumption, ?_⟩; conv => whnf))
    refine ⟨?_, fun z => absurd z (by decide)⟩
    (conv => whnf)
    refine ⟨fun z => absurd z (by decide), ?_⟩
    (conv => whnf)
    refine ⟨fun z => absurd z (by decide), ?_⟩
    (conv => whnf)
    refine ⟨fun _ => ?_, ?_⟩
    · repeat (first | (refine hP _ _ _ _ _ _ ?_; conv => whnf) | (refine ⟨fun q => absurd q (by decide), fun _ => ?_⟩) | (refine ⟨fun _ => ?_, fun q => absurd (by decide) q⟩) | (refine ⟨_, by assumption, ?_⟩; conv => whnf))
      exact ⟨rfl, h1, by decide, by decide⟩
    · (conv => whnf)
      refine ⟨fun z => absurd z (by decide), ?_⟩
      (conv => whnf)
      refine ⟨fun z => absurd z (by decide), ?_⟩
      (conv => whnf)
      refine ⟨fun z => absurd z (by decide), ?_⟩
      (conv => whnf)
      refine ⟨fun z => absurd z (by decide), ?_⟩
      (conv => whnf)
      refine ⟨fun z => absurd z (by decide), ?_⟩
      exact True.intro
  | 3, _ =>
    (intro P hP; conv => whnf)
    repeat (first | (refine hP _ _ _ _ _ _ ?_; conv => whnf) | (refine ⟨fun q => absurd q (by decide), fun _ => ?_⟩) | (refine ⟨fun _ => ?_, fun q => absurd (by decide) q⟩) | (refine ⟨_, by assumption, ?_⟩; conv => whnf))
    refine ⟨?_, fun z => absurd z (by decide)⟩
    (conv => whnf)
    refine ⟨fun z => absurd z (by decide), ?_⟩
    (conv => whnf)
    refine ⟨fun z => absurd z (by decide), ?_⟩
    (conv => whnf)
    refine ⟨fun z => absurd z (by decide), ?_⟩
    (conv => whnf)
    refine ⟨fun _ => ?_, ?_⟩
    · repeat (first | (refine hP _ _ _ _ _ _ ?_; conv => whnf) | (refine ⟨fun q => absurd q (by decide), fun _ => ?_⟩) | (refine ⟨fun _ => ?_, fun q => absurd (by decide) q⟩) | (refine ⟨_, by assumption, ?_⟩; conv => whnf))
      have h2 : Q (.inl (some (.long ((v.toInt32.toUInt32 % 65536).toInt32.toInt64)))) h := by
        rw [c_chr]
        exact h1
      exact ⟨rfl, h2, by decide, by decide⟩
    · (conv => whnf)
      refine ⟨fun z => absurd z (by decide), ?_⟩
      (conv => whnf)
      refine ⟨fun z => absurd z (by decide), ?_⟩
      (conv => whnf)
      refine ⟨fun z => absurd z (by decide), ?_⟩
      (conv => whnf)
      refine ⟨fun z => absurd z (by decide), ?_⟩
      exact True.intro
  | 4, _ =>
    (intro P hP; conv => whnf)
    repeat (first | (refine hP _ _ _ _ _ _ ?_; conv => whnf) | (refine ⟨fun q => absurd q (by decide), fun _ => ?_⟩) | (refine ⟨fun _ => ?_, fun q => absurd (by decide) q⟩) | (refine ⟨_, by assumption, ?_⟩; conv => whnf))
    refine ⟨?_, fun z => absurd z (by decide)⟩
    (conv => whnf)
    refine ⟨fun z => absurd z (by decide), ?_⟩
    (conv => whnf)
    refine ⟨fun z => absurd z (by decide), ?_⟩
    (conv => whnf)
    refine ⟨fun z => absurd z (by decide), ?_⟩
    (conv => whnf)
    refine ⟨fun z => absurd z (by decide), ?_⟩
    (conv => whnf)
    refine ⟨fun _ => ?_, ?_⟩
    · repeat (first | (refine hP _ _ _ _ _ _ ?_; conv => whnf) | (refine ⟨fun q => absurd q (by decide), fun _ => ?_⟩) | (refine ⟨fun _ => ?_, fun q => absurd (by decide) q⟩) | (refine ⟨_, by assumption, ?_⟩; conv => whnf))
      exact ⟨rfl, h1, by decide, by decide⟩
    · (conv => whnf)
      refine ⟨fun z => absurd z (by decide), ?_⟩
      (conv => whnf)
      refine ⟨fun z => absurd z (by decide), ?_⟩
      (conv => whnf)
      refine ⟨fun z => absurd z (by decide), ?_⟩
      exact True.intro
  | 5, _ =>
    (intro P hP; conv => whnf)
    repeat (first | (refine hP _ _ _ _ _ _ ?_; conv => whnf) | (refine ⟨fun q => absurd q (by decide), fun _ => ?_⟩) | (refine ⟨fun _ => ?_, fun q => absurd (by decide) q⟩) | (refine ⟨_, by assumption, ?_⟩; conv => whnf))
    refine ⟨?_, fun z => absurd z (by decide)⟩
    (conv => whnf)
    refine ⟨fun z => absurd z (by decide), ?_⟩
    (conv => whnf)
    refine ⟨fun z => absurd z (by decide), ?_⟩
    (conv => whnf)
    refine ⟨fun z => absurd z (by decide), ?_⟩
    (conv => whnf)
    refine ⟨fun z => absurd z (by decide), ?_⟩
    (conv => whnf)
    refine ⟨fun z => absurd z (by decide), ?_⟩
    (conv => whnf)
    refine ⟨fun _ => ?_, ?_⟩
    · repeat (first | (refine hP _ _ _ _ _ _ ?_; conv => whnf) | (refine ⟨fun q => absurd q (by decide), fun _ => ?_⟩) | (refine ⟨fun _ => ?_, fun q => absurd (by decide) q⟩) | (refine ⟨_, by assumption, ?_⟩; conv => whnf))
      exact ⟨rfl, h1, by decide, by decide⟩
    · (conv => whnf)
      refine ⟨fun z => absurd z (by decide), ?_⟩
      (conv => whnf)
      refine ⟨fun z => absurd z (by decide), ?_⟩
      exact True.intro
  | 6, _ =>
    (intro P hP; conv => whnf)
    repeat (first | (refine hP _ _ _ _ _ _ ?_; conv => whnf) | (refine ⟨fun q => absurd q (by decide), fun _ => ?_⟩) | (refine ⟨fun _ => ?_, fun q => absurd (by decide) q⟩) | (refine ⟨_, by assumption, ?_⟩; conv => whnf))
    refine ⟨?_, fun z => absurd z (by decide)⟩
    (conv => whnf)
    refine ⟨fun z => absurd z (by decide), ?_⟩
    (conv => whnf)
    refine ⟨fun z => absurd z (by decide), ?_⟩
    (conv => whnf)
    refine ⟨fun z => absurd z (by decide), ?_⟩
    (conv => whnf)
    refine ⟨fun z => absurd z (by decide), ?_⟩
    (conv => whnf)
    refine ⟨fun z => absurd z (by decide), ?_⟩
    (conv => whnf)
    refine ⟨fun z => absurd z (by decide), ?_⟩
    (conv => whnf)
    refine ⟨fun _ => ?_, ?_⟩
    · repeat (first | (refine hP _ _ _ _ _ _ ?_; conv => whnf) | (refine ⟨fun q => absurd q (by decide), fun _ => ?_⟩) | (refine ⟨fun _ => ?_, fun q => absurd (by decide) q⟩) | (refine ⟨_, by assumption, ?_⟩; conv => whnf))
      exact ⟨rfl, h1, by decide, by decide⟩
    · (conv => whnf)
      refine ⟨fun z => absurd z (by decide), ?_⟩
      exact True.intro
  | 7, _ =>
    (intro P hP; conv => whnf)
    repeat (first | (refine hP _ _ _ _ _ _ ?_; conv => whnf) | (refine ⟨fun q => absurd q (by decide), fun _ => ?_⟩) | (refine ⟨fun _ => ?_, fun q => absurd (by decide) q⟩) | (refine ⟨_, by assumption, ?_⟩; conv => whnf))
    refine ⟨?_, fun z => absurd z (by decide)⟩
    (conv => whnf)
    refine ⟨fun z => absurd z (by decide), ?_⟩
    (conv => whnf)
    refine ⟨fun z => absurd z (by decide), ?_⟩
    (conv => whnf)
    refine ⟨fun z => absurd z (by decide), ?_⟩
    (conv => whnf)
    refine ⟨fun z => absurd z (by decide), ?_⟩
    (conv => whnf)
    refine ⟨fun z => absurd z (by decide), ?_⟩
    (conv => whnf)
    refine ⟨fun z => absurd z (by decide), ?_⟩
    (conv => whnf)
    refine ⟨fun z => absurd z (by decide), ?_⟩
    (conv => whnf)
    refine ⟨fun _ => ?_, ?_⟩
    · repeat (first | (refine hP _ _ _ _ _ _ ?_; conv => whnf) | (refine ⟨fun q => absurd q (by decide), fun _ => ?_⟩) | (refine ⟨fun _ => ?_, fun q => absurd (by decide) q⟩) | (refine ⟨_, by assumption, ?_⟩; conv => whnf))
      exact ⟨rfl, h1, by decide, by decide⟩
    · exact True.intro
theorem c_rck {op : Nat} {p q : Int64} (ho : op < 5) (h1 : ¬ (3 ≤ op ∧ q = 0) → Q (.inl (some (.long (m_rck op p q)))) h) (h2 : 3 ≤ op ∧ q = 0 → Q (.inr 6) h) : T_X5_reckon [.int (nI op), .long p, .long q] h Q := by
  match op, ho with
  | 0, _ =>
    (intro P hP; conv => whnf)
    repeat (first | (refine hP _ _ _ _ _ _ ?_; conv => whnf) | (refine ⟨fun q => absurd q (by decide), fun _ => ?_⟩) | (refine ⟨fun _ => ?_, fun q => absurd (by decide) q⟩) | (refine ⟨_, by assumption, ?_⟩; conv => whnf))
    refine ⟨?_, fun z => absurd z (by decide)⟩
    (conv => whnf)
    refine ⟨fun _ => ?_, ?_⟩
    · repeat (first | (refine hP _ _ _ _ _ _ ?_; conv => whnf) | (refine ⟨fun q => absurd q (by decide), fun _ => ?_⟩) | (refine ⟨fun _ => ?_, fun q => absurd (by decide) q⟩) | (refine ⟨_, by assumption, ?_⟩; conv => whnf))
      exact ⟨rfl, h1 (fun z => absurd z.1 (by decide)), by decide, by decide⟩
    · (conv => whnf)
      refine ⟨fun z => absurd z (by decide), ?_⟩
      (conv => whnf)
      refine ⟨fun z => absurd z (by decide), ?_⟩
      (conv => whnf)
      refine ⟨fun z => absurd z (by decide), ?_⟩
      exact True.intro
  | 1, _ =>
    (intro P hP; conv => whnf)
    repeat (first | (refine hP _ _ _ _ _ _ ?_; conv => whnf) | (refine ⟨fun q => absurd q (by decide), fun _ => ?_⟩) | (refine ⟨fun _ => ?_, fun q => absurd (by decide) q⟩) | (refine ⟨_, by assumption, ?_⟩; conv => whnf))
    refine ⟨?_, fun z => absurd z (by decide)⟩
    (conv => whnf)
    refine ⟨fun z => absurd z (by decide), ?_⟩
    (conv => whnf)
    refine ⟨fun _ => ?_, ?_⟩
    · repeat (first | (refine hP _ _ _ _ _ _ ?_; conv => whnf) | (refine ⟨fun q => absurd q (by decide), fun _ => ?_⟩) | (refine ⟨fun _ => ?_, fun q => absurd (by decide) q⟩) | (refine ⟨_, by assumption, ?_⟩; conv => whnf))
      exact ⟨rfl, h1 (fun z => absurd z.1 (by decide)), by decide, by decide⟩
    · (conv => whnf)
      refine ⟨fun z => absurd z (by decide), ?_⟩
      (conv => whnf)
      refine ⟨fun z => absurd z (by decide), ?_⟩
      exact True.intro
  | 2, _ =>
    (intro P hP; conv => whnf)
    repeat (first | (refine hP _ _ _ _ _ _ ?_; conv => whnf) | (refine ⟨fun q => absurd q (by decide), fun _ => ?_⟩) | (refine ⟨fun _ => ?_, fun q => absurd (by decide) q⟩) | (refine ⟨_, by assumption, ?_⟩; conv => whnf))
    refine ⟨?_, fun z => absurd z (by decide)⟩
    (conv => whnf)
    refine ⟨fun z => absurd z (by decide), ?_⟩
    (conv => whnf)
    refine ⟨fun z => absurd z (by decide), ?_⟩
    (conv => whnf)
    refine ⟨fun _ => ?_, ?_⟩
    · repeat (first | (refine hP _ _ _ _ _ _ ?_; conv => whnf) | (refine ⟨fun q => absurd q (by decide), fun _ => ?_⟩) | (refine ⟨fun _ => ?_, fun q => absurd (by decide) q⟩) | (refine ⟨_, by assumption, ?_⟩; conv => whnf))
      exact ⟨rfl, h1 (fun z => absurd z.1 (by decide)), by decide, by decide⟩
    · (conv => whnf)
      refine ⟨fun z => absurd z (by decide), ?_⟩
      exact True.intro
  | 3, _ =>
    (intro P hP; conv => whnf)
    repeat (first | (refine hP _ _ _ _ _ _ ?_; conv => whnf) | (refine ⟨fun q => absurd q (by decide), fun _ => ?_⟩) | (refine ⟨fun _ => ?_, fun q => absurd (by decide) q⟩) | (refine ⟨_, by assumption, ?_⟩; conv => whnf))
    refine ⟨?_, fun z => absurd z (by decide)⟩
    (conv => whnf)
    refine ⟨fun z => absurd z (by decide), ?_⟩
    (conv => whnf)
    refine ⟨fun z => absurd z (by decide), ?_⟩
    (conv => whnf)
    refine ⟨fun z => absurd z (by decide), ?_⟩
    (conv => whnf)
    refine ⟨fun _ => ?_, ?_⟩
    · repeat (first | (refine hP _ _ _ _ _ _ ?_; conv => whnf) | (refine ⟨fun q => absurd q (by decide), fun _ => ?_⟩) | (refine ⟨fun _ => ?_, fun q => absurd (by decide) q⟩) | (refine ⟨_, by assumption, ?_⟩; conv => whnf))
      refine ⟨Nat.le_of_ble_eq_true rfl, Nat.le_of_ble_eq_true rfl, Nat.le_of_ble_eq_true rfl, ?_⟩
      refine sp_requireDivisor (fun q0 => ?_) (fun q0 => ?_)
      · refine ac_koN ?_
        repeat (first | (refine hP _ _ _ _ _ _ ?_; conv => whnf) | (refine ⟨fun q => absurd q (by decide), fun _ => ?_⟩) | (refine ⟨fun _ => ?_, fun q => absurd (by decide) q⟩) | (refine ⟨_, by assumption, ?_⟩; conv => whnf))
        refine ⟨q0, ?_⟩
        repeat (first | (refine hP _ _ _ _ _ _ ?_; conv => whnf) | (refine ⟨fun q => absurd q (by decide), fun _ => ?_⟩) | (refine ⟨fun _ => ?_, fun q => absurd (by decide) q⟩) | (refine ⟨_, by assumption, ?_⟩; conv => whnf))
        exact ⟨rfl, h1 (fun z => q0 z.2), by decide, by decide⟩
      · refine ac_koX (by decide) ?_
        exact h2 ⟨by decide, q0⟩
    · exact True.intro
  | 4, _ =>
    (intro P hP; conv => whnf)
    repeat (first | (refine hP _ _ _ _ _ _ ?_; conv => whnf) | (refine ⟨fun q => absurd q (by decide), fun _ => ?_⟩) | (refine ⟨fun _ => ?_, fun q => absurd (by decide) q⟩) | (refine ⟨_, by assumption, ?_⟩; conv => whnf))
    refine ⟨?_, fun _ => ?_⟩
    · (conv => whnf)
      refine ⟨fun z => absurd z (by decide), ?_⟩
      (conv => whnf)
      refine ⟨fun z => absurd z (by decide), ?_⟩
      (conv => whnf)
      refine ⟨fun z => absurd z (by decide), ?_⟩
      (conv => whnf)
      refine ⟨fun z => absurd z (by decide), ?_⟩
      exact True.intro
    · repeat (first | (refine hP _ _ _ _ _ _ ?_; conv => whnf) | (refine ⟨fun q => absurd q (by decide), fun _ => ?_⟩) | (refine ⟨fun _ => ?_, fun q => absurd (by decide) q⟩) | (refine ⟨_, by assumption, ?_⟩; conv => whnf))
      refine ⟨Nat.le_of_ble_eq_true rfl, Nat.le_of_ble_eq_true rfl, Nat.le_of_ble_eq_true rfl, ?_⟩
      refine sp_requireDivisor (fun q0 => ?_) (fun q0 => ?_)
      · refine ac_koN ?_
        repeat (first | (refine hP _ _ _ _ _ _ ?_; conv => whnf) | (refine ⟨fun q => absurd q (by decide), fun _ => ?_⟩) | (refine ⟨fun _ => ?_, fun q => absurd (by decide) q⟩) | (refine ⟨_, by assumption, ?_⟩; conv => whnf))
        refine ⟨q0, ?_⟩
        repeat (first | (refine hP _ _ _ _ _ _ ?_; conv => whnf) | (refine ⟨fun q => absurd q (by decide), fun _ => ?_⟩) | (refine ⟨fun _ => ?_, fun q => absurd (by decide) q⟩) | (refine ⟨_, by assumption, ?_⟩; conv => whnf))
        exact ⟨rfl, h1 (fun z => q0 z.2), by decide, by decide⟩
      · refine ac_koX (by decide) ?_
        exact h2 ⟨by decide, q0⟩
end CLB
