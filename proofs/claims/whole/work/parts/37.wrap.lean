/-! ===== the law's calls of the class ===== -/
section WRP
variable {h : ac_H} {Z : Nat → Prop} {x : Nat} {ad : Nat → Nat} {ow : Nat → Option Nat} {hd : Nat} {hf : Nat → Option Nat} {S : m_S} {Q : ac_Q}
theorem c_zF {h' : ac_H} (H : c_CH h Z x S) (W : m_wf S) (h1 : ∀ b, ¬ Z b → h' b = h b) (h2 : ∀ b, Z b → h' b ≠ none) : c_CH h' Z x S := by
  obtain ⟨ad, ow, hd, hf, C1, C2, C3, C4, C5, C6, C7, C8, C9⟩ := H
  refine ⟨ad, ow, hd, hf, (h1 x C6).trans C1, (h1 hd C7).trans C2, C3, fun i hi => ?_, fun b hb => ⟨h2 b hb, (C5 b hb).2⟩, C6, C7, C8, C9⟩
  exact c_itF W hi (C4 i hi) c_ag0 (fun _ _ => rfl) (fun b ob n => ⟨h1 b (fun z => by rw [(C5 b z).2] at ob; cases ob), ob⟩)
theorem c_zO {out : Nat} {e : ac_E} (H : c_CH h Z x S) (W : m_wf S) (Zo : Z out) : c_CH (ac_hs h out e) Z x S := by
  obtain ⟨ad, ow, hd, hf, C⟩ := id H
  refine c_zF H W (fun b nb => ac_hsN (fun z => nb (by rw [z]; exact Zo))) (fun b hb => ?_)
  by_cases c : b = out
  · rw [c, ac_hsE]
    exact sn
  · rw [ac_hsN c]
    exact (C.2.2.2.2.1 b hb).1
def m_b2 (a : Int32) : Int64 := if a = 0 then 0 else 1
theorem L_make {out : Nat} {o0 : Nat → Int64} (C : c_ch h Z x ad ow hd hf S) (W : m_wf S) (hm : m_mk S < 512) (Zo : Z out) (ho : h out = some (.inr (2, 1, .inr (.inl o0)))) {r : Int32} {s : Int32} {n : Int32} (hQ : m_app (fun x' a S' => ∀ h' o, c_CH h' Z x S' → (∀ b, Z b → b ≠ out → h' b = h b) → h' out = some (.inr (2, 1, .inr (.inl o))) → (x' = 7 → o 0 = a.toInt64) → Q (.inl (some (.int (m_ct 2 x')))) h') (f_make S r s n)) : T_L_make [.ref x, .int r, .int s, .int n, .ref out] h Q := by
  have V := V_make (r := r) (s := s) (n := n) W hm
  (intro P hP; conv => whnf)
  repeat (first | (refine hP _ _ _ _ _ _ ?_; conv => whnf) | (refine ⟨fun q => absurd q (by decide), fun _ => ?_⟩) | (refine ⟨fun _ => ?_, fun q => absurd (by decide) q⟩) | (refine ac_get C.1 ?_; conv => whnf) | (refine ⟨_, C.1, Nat.le_of_ble_eq_true rfl, Nat.le_of_ble_eq_true rfl, Nat.le_of_ble_eq_true rfl, ?_⟩) | (refine ⟨Nat.le_of_ble_eq_true rfl, Nat.le_of_ble_eq_true rfl, Nat.le_of_ble_eq_true rfl, ?_⟩))
  refine C_make C W hm ?_
  revert hQ V
  generalize f_make S r s n = t
  obtain ⟨x', a, S'⟩ := t
  intro hQ V h' CH F
  dsimp only [m_app] at hQ V CH ⊢
  obtain ⟨vx, vw, vm⟩ := V
  have ho' := (F out Zo).trans ho
  rcases vx with e | e | e
  · subst e
    repeat (first | (refine hP _ _ _ _ _ _ ?_; conv => whnf) | (refine ⟨fun q => absurd q (by decide), fun _ => ?_⟩) | (refine ⟨fun _ => ?_, fun q => absurd (by decide) q⟩) | (refine ac_get C.1 ?_; conv => whnf) | (refine ⟨_, C.1, Nat.le_of_ble_eq_true rfl, Nat.le_of_ble_eq_true rfl, Nat.le_of_ble_eq_true rfl, ?_⟩) | (refine ⟨Nat.le_of_ble_eq_true rfl, Nat.le_of_ble_eq_true rfl, Nat.le_of_ble_eq_true rfl, ?_⟩))
    refine ⟨_, _, ho', vp_in_nI (n := 0) (by decide) (by decide), ?_⟩
    repeat (first | (refine hP _ _ _ _ _ _ ?_; conv => whnf) | (refine ⟨fun q => absurd q (by decide), fun _ => ?_⟩) | (refine ⟨fun _ => ?_, fun q => absurd (by decide) q⟩) | (refine ac_get C.1 ?_; conv => whnf) | (refine ⟨_, C.1, Nat.le_of_ble_eq_true rfl, Nat.le_of_ble_eq_true rfl, Nat.le_of_ble_eq_true rfl, ?_⟩) | (refine ⟨Nat.le_of_ble_eq_true rfl, Nat.le_of_ble_eq_true rfl, Nat.le_of_ble_eq_true rfl, ?_⟩))
    exact ⟨rfl, hQ _ _ (c_zO CH vw Zo) (fun b hb nb => (ac_hsN nb).trans (F b hb)) ac_hsE (fun _ => vp_updE (k := 0)), by decide, by decide⟩
  · subst e
    (conv => whnf)
    refine ⟨by decide, ?_⟩
    (conv => whnf)
    intro a1
    repeat (first | (refine hP _ _ _ _ _ _ ?_; conv => whnf) | (refine ⟨fun q => absurd q (by decide), fun _ => ?_⟩) | (refine ⟨fun _ => ?_, fun q => absurd (by decide) q⟩) | (refine ac_get C.1 ?_; conv => whnf) | (refine ⟨_, C.1, Nat.le_of_ble_eq_true rfl, Nat.le_of_ble_eq_true rfl, Nat.le_of_ble_eq_true rfl, ?_⟩) | (refine ⟨Nat.le_of_ble_eq_true rfl, Nat.le_of_ble_eq_true rfl, Nat.le_of_ble_eq_true rfl, ?_⟩))
    exact ⟨rfl, hQ _ _ CH (fun b hb _ => F b hb) ho' (fun z => absurd z (by decide)), by decide, by decide⟩
  · subst e
    (conv => whnf)
    refine ⟨by decide, ?_⟩
    (conv => whnf)
    intro a1
    repeat (first | (refine hP _ _ _ _ _ _ ?_; conv => whnf) | (refine ⟨fun q => absurd q (by decide), fun _ => ?_⟩) | (refine ⟨fun _ => ?_, fun q => absurd (by decide) q⟩) | (refine ac_get C.1 ?_; conv => whnf) | (refine ⟨_, C.1, Nat.le_of_ble_eq_true rfl, Nat.le_of_ble_eq_true rfl, Nat.le_of_ble_eq_true rfl, ?_⟩) | (refine ⟨Nat.le_of_ble_eq_true rfl, Nat.le_of_ble_eq_true rfl, Nat.le_of_ble_eq_true rfl, ?_⟩))
    exact ⟨rfl, hQ _ _ CH (fun b hb _ => F b hb) ho' (fun z => absurd z (by decide)), by decide, by decide⟩
theorem L_grid {out : Nat} {o0 : Nat → Int64} (C : c_ch h Z x ad ow hd hf S) (W : m_wf S) (hm : m_mk S < 512) (Zo : Z out) (ho : h out = some (.inr (2, 1, .inr (.inl o0)))) {r : Int32} {a : Int32} {b : Int32} (hQ : m_app (fun x' a S' => ∀ h' o, c_CH h' Z x S' → (∀ b, Z b → b ≠ out → h' b = h b) → h' out = some (.inr (2, 1, .inr (.inl o))) → (x' = 7 → o 0 = a.toInt64) → Q (.inl (some (.int (m_ct 2 x')))) h') (f_grid S r a b)) : T_L_grid [.ref x, .int r, .int a, .int b, .ref out] h Q := by
  have V := V_grid (r := r) (a := a) (b := b) W hm
  (intro P hP; conv => whnf)
  repeat (first | (refine hP _ _ _ _ _ _ ?_; conv => whnf) | (refine ⟨fun q => absurd q (by decide), fun _ => ?_⟩) | (refine ⟨fun _ => ?_, fun q => absurd (by decide) q⟩) | (refine ac_get C.1 ?_; conv => whnf) | (refine ⟨_, C.1, Nat.le_of_ble_eq_true rfl, Nat.le_of_ble_eq_true rfl, Nat.le_of_ble_eq_true rfl, ?_⟩) | (refine ⟨Nat.le_of_ble_eq_true rfl, Nat.le_of_ble_eq_true rfl, Nat.le_of_ble_eq_true rfl, ?_⟩))
  refine C_grid C W hm ?_
  revert hQ V
  generalize f_grid S r a b = t
  obtain ⟨x', a, S'⟩ := t
  intro hQ V h' CH F
  dsimp only [m_app] at hQ V CH ⊢
  obtain ⟨vx, vw, vm⟩ := V
  have ho' := (F out Zo).trans ho
  rcases vx with e | e | e
  · subst e
    repeat (first | (refine hP _ _ _ _ _ _ ?_; conv => whnf) | (refine ⟨fun q => absurd q (by decide), fun _ => ?_⟩) | (refine ⟨fun _ => ?_, fun q => absurd (by decide) q⟩) | (refine ac_get C.1 ?_; conv => whnf) | (refine ⟨_, C.1, Nat.le_of_ble_eq_true rfl, Nat.le_of_ble_eq_true rfl, Nat.le_of_ble_eq_true rfl, ?_⟩) | (refine ⟨Nat.le_of_ble_eq_true rfl, Nat.le_of_ble_eq_true rfl, Nat.le_of_ble_eq_true rfl, ?_⟩))
    refine ⟨_, _, ho', vp_in_nI (n := 0) (by decide) (by decide), ?_⟩
    repeat (first | (refine hP _ _ _ _ _ _ ?_; conv => whnf) | (refine ⟨fun q => absurd q (by decide), fun _ => ?_⟩) | (refine ⟨fun _ => ?_, fun q => absurd (by decide) q⟩) | (refine ac_get C.1 ?_; conv => whnf) | (refine ⟨_, C.1, Nat.le_of_ble_eq_true rfl, Nat.le_of_ble_eq_true rfl, Nat.le_of_ble_eq_true rfl, ?_⟩) | (refine ⟨Nat.le_of_ble_eq_true rfl, Nat.le_of_ble_eq_true rfl, Nat.le_of_ble_eq_true rfl, ?_⟩))
    exact ⟨rfl, hQ _ _ (c_zO CH vw Zo) (fun b hb nb => (ac_hsN nb).trans (F b hb)) ac_hsE (fun _ => vp_updE (k := 0)), by decide, by decide⟩
  · subst e
    (conv => whnf)
    refine ⟨by decide, ?_⟩
    (conv => whnf)
    intro a1
    repeat (first | (refine hP _ _ _ _ _ _ ?_; conv => whnf) | (refine ⟨fun q => absurd q (by decide), fun _ => ?_⟩) | (refine ⟨fun _ => ?_, fun q => absurd (by decide) q⟩) | (refine ac_get C.1 ?_; conv => whnf) | (refine ⟨_, C.1, Nat.le_of_ble_eq_true rfl, Nat.le_of_ble_eq_true rfl, Nat.le_of_ble_eq_true rfl, ?_⟩) | (refine ⟨Nat.le_of_ble_eq_true rfl, Nat.le_of_ble_eq_true rfl, Nat.le_of_ble_eq_true rfl, ?_⟩))
    exact ⟨rfl, hQ _ _ CH (fun b hb _ => F b hb) ho' (fun z => absurd z (by decide)), by decide, by decide⟩
  · subst e
    (conv => whnf)
    refine ⟨by decide, ?_⟩
    (conv => whnf)
    intro a1
    repeat (first | (refine hP _ _ _ _ _ _ ?_; conv => whnf) | (refine ⟨fun q => absurd q (by decide), fun _ => ?_⟩) | (refine ⟨fun _ => ?_, fun q => absurd (by decide) q⟩) | (refine ac_get C.1 ?_; conv => whnf) | (refine ⟨_, C.1, Nat.le_of_ble_eq_true rfl, Nat.le_of_ble_eq_true rfl, Nat.le_of_ble_eq_true rfl, ?_⟩) | (refine ⟨Nat.le_of_ble_eq_true rfl, Nat.le_of_ble_eq_true rfl, Nat.le_of_ble_eq_true rfl, ?_⟩))
    exact ⟨rfl, hQ _ _ CH (fun b hb _ => F b hb) ho' (fun z => absurd z (by decide)), by decide, by decide⟩
theorem L_record {out : Nat} {o0 : Nat → Int64} (C : c_ch h Z x ad ow hd hf S) (W : m_wf S) (hm : m_mk S < 512) (Zo : Z out) (ho : h out = some (.inr (2, 1, .inr (.inl o0)))) {r : Int32} (hQ : m_app (fun x' a S' => ∀ h' o, c_CH h' Z x S' → (∀ b, Z b → b ≠ out → h' b = h b) → h' out = some (.inr (2, 1, .inr (.inl o))) → (x' = 7 → o 0 = a.toInt64) → Q (.inl (some (.int (m_ct 0 x')))) h') (f_record S r)) : T_L_record [.ref x, .int r, .ref out] h Q := by
  have V := V_record (r := r) W hm
  (intro P hP; conv => whnf)
  repeat (first | (refine hP _ _ _ _ _ _ ?_; conv => whnf) | (refine ⟨fun q => absurd q (by decide), fun _ => ?_⟩) | (refine ⟨fun _ => ?_, fun q => absurd (by decide) q⟩) | (refine ac_get C.1 ?_; conv => whnf) | (refine ⟨_, C.1, Nat.le_of_ble_eq_true rfl, Nat.le_of_ble_eq_true rfl, Nat.le_of_ble_eq_true rfl, ?_⟩) | (refine ⟨Nat.le_of_ble_eq_true rfl, Nat.le_of_ble_eq_true rfl, Nat.le_of_ble_eq_true rfl, ?_⟩))
  refine C_record C W hm ?_
  revert hQ V
  generalize f_record S r = t
  obtain ⟨x', a, S'⟩ := t
  intro hQ V h' CH F
  dsimp only [m_app] at hQ V CH ⊢
  obtain ⟨vx, vw, vm⟩ := V
  have ho' := (F out Zo).trans ho
  rcases vx with e | e
  · subst e
    repeat (first | (refine hP _ _ _ _ _ _ ?_; conv => whnf) | (refine ⟨fun q => absurd q (by decide), fun _ => ?_⟩) | (refine ⟨fun _ => ?_, fun q => absurd (by decide) q⟩) | (refine ac_get C.1 ?_; conv => whnf) | (refine ⟨_, C.1, Nat.le_of_ble_eq_true rfl, Nat.le_of_ble_eq_true rfl, Nat.le_of_ble_eq_true rfl, ?_⟩) | (refine ⟨Nat.le_of_ble_eq_true rfl, Nat.le_of_ble_eq_true rfl, Nat.le_of_ble_eq_true rfl, ?_⟩))
    refine ⟨_, _, ho', vp_in_nI (n := 0) (by decide) (by decide), ?_⟩
    repeat (first | (refine hP _ _ _ _ _ _ ?_; conv => whnf) | (refine ⟨fun q => absurd q (by decide), fun _ => ?_⟩) | (refine ⟨fun _ => ?_, fun q => absurd (by decide) q⟩) | (refine ac_get C.1 ?_; conv => whnf) | (refine ⟨_, C.1, Nat.le_of_ble_eq_true rfl, Nat.le_of_ble_eq_true rfl, Nat.le_of_ble_eq_true rfl, ?_⟩) | (refine ⟨Nat.le_of_ble_eq_true rfl, Nat.le_of_ble_eq_true rfl, Nat.le_of_ble_eq_true rfl, ?_⟩))
    exact ⟨rfl, hQ _ _ (c_zO CH vw Zo) (fun b hb nb => (ac_hsN nb).trans (F b hb)) ac_hsE (fun _ => vp_updE (k := 0)), by decide, by decide⟩
  · subst e
    (conv => whnf)
    refine ⟨by decide, ?_⟩
    (conv => whnf)
    intro a1
    repeat (first | (refine hP _ _ _ _ _ _ ?_; conv => whnf) | (refine ⟨fun q => absurd q (by decide), fun _ => ?_⟩) | (refine ⟨fun _ => ?_, fun q => absurd (by decide) q⟩) | (refine ac_get C.1 ?_; conv => whnf) | (refine ⟨_, C.1, Nat.le_of_ble_eq_true rfl, Nat.le_of_ble_eq_true rfl, Nat.le_of_ble_eq_true rfl, ?_⟩) | (refine ⟨Nat.le_of_ble_eq_true rfl, Nat.le_of_ble_eq_true rfl, Nat.le_of_ble_eq_true rfl, ?_⟩))
    exact ⟨rfl, hQ _ _ CH (fun b hb _ => F b hb) ho' (fun z => absurd z (by decide)), by decide, by decide⟩
theorem L_window {out : Nat} {o0 : Nat → Int64} (C : c_ch h Z x ad ow hd hf S) (W : m_wf S) (hm : m_mk S < 512) (Zo : Z out) (ho : h out = some (.inr (2, 1, .inr (.inl o0)))) {r : Int32} {b : Int32} {o : Int32} (hQ : m_app (fun x' a S' => ∀ h' o, c_CH h' Z x S' → (∀ b, Z b → b ≠ out → h' b = h b) → h' out = some (.inr (2, 1, .inr (.inl o))) → (x' = 7 → o 0 = a.toInt64) → Q (.inl (some (.int (m_ct 0 x')))) h') (f_window S r b o)) : T_L_window [.ref x, .int r, .int b, .int o, .ref out] h Q := by
  have V := V_window (r := r) (b := b) (o := o) W hm
  (intro P hP; conv => whnf)
  repeat (first | (refine hP _ _ _ _ _ _ ?_; conv => whnf) | (refine ⟨fun q => absurd q (by decide), fun _ => ?_⟩) | (refine ⟨fun _ => ?_, fun q => absurd (by decide) q⟩) | (refine ac_get C.1 ?_; conv => whnf) | (refine ⟨_, C.1, Nat.le_of_ble_eq_true rfl, Nat.le_of_ble_eq_true rfl, Nat.le_of_ble_eq_true rfl, ?_⟩) | (refine ⟨Nat.le_of_ble_eq_true rfl, Nat.le_of_ble_eq_true rfl, Nat.le_of_ble_eq_true rfl, ?_⟩))
  refine C_window C W hm ?_
  revert hQ V
  generalize f_window S r b o = t
  obtain ⟨x', a, S'⟩ := t
  intro hQ V h' CH F
  dsimp only [m_app] at hQ V CH ⊢
  obtain ⟨vx, vw, vm⟩ := V
  have ho' := (F out Zo).trans ho
  rcases vx with e | e | e | e | e
  · subst e
    repeat (first | (refine hP _ _ _ _ _ _ ?_; conv => whnf) | (refine ⟨fun q => absurd q (by decide), fun _ => ?_⟩) | (refine ⟨fun _ => ?_, fun q => absurd (by decide) q⟩) | (refine ac_get C.1 ?_; conv => whnf) | (refine ⟨_, C.1, Nat.le_of_ble_eq_true rfl, Nat.le_of_ble_eq_true rfl, Nat.le_of_ble_eq_true rfl, ?_⟩) | (refine ⟨Nat.le_of_ble_eq_true rfl, Nat.le_of_ble_eq_true rfl, Nat.le_of_ble_eq_true rfl, ?_⟩))
    refine ⟨_, _, ho', vp_in_nI (n := 0) (by decide) (by decide), ?_⟩
    repeat (first | (refine hP _ _ _ _ _ _ ?_; conv => whnf) | (refine ⟨fun q => absurd q (by decide), fun _ => ?_⟩) | (refine ⟨fun _ => ?_, fun q => absurd (by decide) q⟩) | (refine ac_get C.1 ?_; conv => whnf) | (refine ⟨_, C.1, Nat.le_of_ble_eq_true rfl, Nat.le_of_ble_eq_true rfl, Nat.le_of_ble_eq_true rfl, ?_⟩) | (refine ⟨Nat.le_of_ble_eq_true rfl, Nat.le_of_ble_eq_true rfl, Nat.le_of_ble_eq_true rfl, ?_⟩))
    exact ⟨rfl, hQ _ _ (c_zO CH vw Zo) (fun b hb nb => (ac_hsN nb).trans (F b hb)) ac_hsE (fun _ => vp_updE (k := 0)), by decide, by decide⟩
  · subst e
    (conv => whnf)
    refine ⟨by decide, ?_⟩
    (conv => whnf)
    intro a1
    repeat (first | (refine hP _ _ _ _ _ _ ?_; conv => whnf) | (refine ⟨fun q => absurd q (by decide), fun _ => ?_⟩) | (refine ⟨fun _ => ?_, fun q => absurd (by decide) q⟩) | (refine ac_get C.1 ?_; conv => whnf) | (refine ⟨_, C.1, Nat.le_of_ble_eq_true rfl, Nat.le_of_ble_eq_true rfl, Nat.le_of_ble_eq_true rfl, ?_⟩) | (refine ⟨Nat.le_of_ble_eq_true rfl, Nat.le_of_ble_eq_true rfl, Nat.le_of_ble_eq_true rfl, ?_⟩))
    exact ⟨rfl, hQ _ _ CH (fun b hb _ => F b hb) ho' (fun z => absurd z (by decide)), by decide, by decide⟩
  · subst e
    (conv => whnf)
    refine ⟨by decide, ?_⟩
    (conv => whnf)
    intro a1
    repeat (first | (refine hP _ _ _ _ _ _ ?_; conv => whnf) | (refine ⟨fun q => absurd q (by decide), fun _ => ?_⟩) | (refine ⟨fun _ => ?_, fun q => absurd (by decide) q⟩) | (refine ac_get C.1 ?_; conv => whnf) | (refine ⟨_, C.1, Nat.le_of_ble_eq_true rfl, Nat.le_of_ble_eq_true rfl, Nat.le_of_ble_eq_true rfl, ?_⟩) | (refine ⟨Nat.le_of_ble_eq_true rfl, Nat.le_of_ble_eq_true rfl, Nat.le_of_ble_eq_true rfl, ?_⟩))
    exact ⟨rfl, hQ _ _ CH (fun b hb _ => F b hb) ho' (fun z => absurd z (by decide)), by decide, by decide⟩
  · subst e
    (conv => whnf)
    refine ⟨by decide, ?_⟩
    (conv => whnf)
    intro a1
    repeat (first | (refine hP _ _ _ _ _ _ ?_; conv => whnf) | (refine ⟨fun q => absurd q (by decide), fun _ => ?_⟩) | (refine ⟨fun _ => ?_, fun q => absurd (by decide) q⟩) | (refine ac_get C.1 ?_; conv => whnf) | (refine ⟨_, C.1, Nat.le_of_ble_eq_true rfl, Nat.le_of_ble_eq_true rfl, Nat.le_of_ble_eq_true rfl, ?_⟩) | (refine ⟨Nat.le_of_ble_eq_true rfl, Nat.le_of_ble_eq_true rfl, Nat.le_of_ble_eq_true rfl, ?_⟩))
    exact ⟨rfl, hQ _ _ CH (fun b hb _ => F b hb) ho' (fun z => absurd z (by decide)), by decide, by decide⟩
  · subst e
    (conv => whnf)
    refine ⟨by decide, ?_⟩
    (conv => whnf)
    intro a1
    repeat (first | (refine hP _ _ _ _ _ _ ?_; conv => whnf) | (refine ⟨fun q => absurd q (by decide), fun _ => ?_⟩) | (refine ⟨fun _ => ?_, fun q => absurd (by decide) q⟩) | (refine ac_get C.1 ?_; conv => whnf) | (refine ⟨_, C.1, Nat.le_of_ble_eq_true rfl, Nat.le_of_ble_eq_true rfl, Nat.le_of_ble_eq_true rfl, ?_⟩) | (refine ⟨Nat.le_of_ble_eq_true rfl, Nat.le_of_ble_eq_true rfl, Nat.le_of_ble_eq_true rfl, ?_⟩))
    exact ⟨rfl, hQ _ _ CH (fun b hb _ => F b hb) ho' (fun z => absurd z (by decide)), by decide, by decide⟩
theorem L_copy {out : Nat} {o0 : Nat → Int64} (C : c_ch h Z x ad ow hd hf S) (W : m_wf S) (Zo : Z out) (ho : h out = some (.inr (2, 1, .inr (.inl o0)))) {r : Int32} {f : Int32} (hQ : m_app (fun x' a S' => ∀ h' o, c_CH h' Z x S' → (∀ b, Z b → b ≠ out → h' b = h b) → h' out = some (.inr (2, 1, .inr (.inl o))) → (x' = 7 → o 0 = m_b2 a) → Q (.inl (some (.int (m_ct 0 x')))) h') (f_copy S r f)) : T_L_copy [.ref x, .int r, .int f, .ref out] h Q := by
  have V := V_copy (r := r) (f := f) W
  (intro P hP; conv => whnf)
  repeat (first | (refine hP _ _ _ _ _ _ ?_; conv => whnf) | (refine ⟨fun q => absurd q (by decide), fun _ => ?_⟩) | (refine ⟨fun _ => ?_, fun q => absurd (by decide) q⟩) | (refine ac_get C.1 ?_; conv => whnf) | (refine ⟨_, C.1, Nat.le_of_ble_eq_true rfl, Nat.le_of_ble_eq_true rfl, Nat.le_of_ble_eq_true rfl, ?_⟩) | (refine ⟨Nat.le_of_ble_eq_true rfl, Nat.le_of_ble_eq_true rfl, Nat.le_of_ble_eq_true rfl, ?_⟩))
  refine C_copy C W ?_
  revert hQ V
  generalize f_copy S r f = t
  obtain ⟨x', a, S'⟩ := t
  intro hQ V h' CH F
  dsimp only [m_app] at hQ V CH ⊢
  obtain ⟨vx, vw, vm, va⟩ := V
  have ho' := (F out Zo).trans ho
  rcases vx with e | e
  · subst e
    rcases va with e | e
    · replace e : a = 0 := e
      subst e
      repeat (first | (refine hP _ _ _ _ _ _ ?_; conv => whnf) | (refine ⟨fun q => absurd q (by decide), fun _ => ?_⟩) | (refine ⟨fun _ => ?_, fun q => absurd (by decide) q⟩) | (refine ac_get C.1 ?_; conv => whnf) | (refine ⟨_, C.1, Nat.le_of_ble_eq_true rfl, Nat.le_of_ble_eq_true rfl, Nat.le_of_ble_eq_true rfl, ?_⟩) | (refine ⟨Nat.le_of_ble_eq_true rfl, Nat.le_of_ble_eq_true rfl, Nat.le_of_ble_eq_true rfl, ?_⟩))
      refine ⟨_, _, ho', vp_in_nI (n := 0) (by decide) (by decide), ?_⟩
      repeat (first | (refine hP _ _ _ _ _ _ ?_; conv => whnf) | (refine ⟨fun q => absurd q (by decide), fun _ => ?_⟩) | (refine ⟨fun _ => ?_, fun q => absurd (by decide) q⟩) | (refine ac_get C.1 ?_; conv => whnf) | (refine ⟨_, C.1, Nat.le_of_ble_eq_true rfl, Nat.le_of_ble_eq_true rfl, Nat.le_of_ble_eq_true rfl, ?_⟩) | (refine ⟨Nat.le_of_ble_eq_true rfl, Nat.le_of_ble_eq_true rfl, Nat.le_of_ble_eq_true rfl, ?_⟩))
      exact ⟨rfl, hQ _ _ (c_zO CH vw Zo) (fun b hb nb => (ac_hsN nb).trans (F b hb)) ac_hsE (fun _ => vp_updE (k := 0)), by decide, by decide⟩
    · replace e : a = 1 := e
      subst e
      repeat (first | (refine hP _ _ _ _ _ _ ?_; conv => whnf) | (refine ⟨fun q => absurd q (by decide), fun _ => ?_⟩) | (refine ⟨fun _ => ?_, fun q => absurd (by decide) q⟩) | (refine ac_get C.1 ?_; conv => whnf) | (refine ⟨_, C.1, Nat.le_of_ble_eq_true rfl, Nat.le_of_ble_eq_true rfl, Nat.le_of_ble_eq_true rfl, ?_⟩) | (refine ⟨Nat.le_of_ble_eq_true rfl, Nat.le_of_ble_eq_true rfl, Nat.le_of_ble_eq_true rfl, ?_⟩))
      refine ⟨_, _, ho', vp_in_nI (n := 0) (by decide) (by decide), ?_⟩
      repeat (first | (refine hP _ _ _ _ _ _ ?_; conv => whnf) | (refine ⟨fun q => absurd q (by decide), fun _ => ?_⟩) | (refine ⟨fun _ => ?_, fun q => absurd (by decide) q⟩) | (refine ac_get C.1 ?_; conv => whnf) | (refine ⟨_, C.1, Nat.le_of_ble_eq_true rfl, Nat.le_of_ble_eq_true rfl, Nat.le_of_ble_eq_true rfl, ?_⟩) | (refine ⟨Nat.le_of_ble_eq_true rfl, Nat.le_of_ble_eq_true rfl, Nat.le_of_ble_eq_true rfl, ?_⟩))
      exact ⟨rfl, hQ _ _ (c_zO CH vw Zo) (fun b hb nb => (ac_hsN nb).trans (F b hb)) ac_hsE (fun _ => vp_updE (k := 0)), by decide, by decide⟩
  · subst e
    (conv => whnf)
    refine ⟨by decide, ?_⟩
    (conv => whnf)
    intro a1
    repeat (first | (refine hP _ _ _ _ _ _ ?_; conv => whnf) | (refine ⟨fun q => absurd q (by decide), fun _ => ?_⟩) | (refine ⟨fun _ => ?_, fun q => absurd (by decide) q⟩) | (refine ac_get C.1 ?_; conv => whnf) | (refine ⟨_, C.1, Nat.le_of_ble_eq_true rfl, Nat.le_of_ble_eq_true rfl, Nat.le_of_ble_eq_true rfl, ?_⟩) | (refine ⟨Nat.le_of_ble_eq_true rfl, Nat.le_of_ble_eq_true rfl, Nat.le_of_ble_eq_true rfl, ?_⟩))
    exact ⟨rfl, hQ _ _ CH (fun b hb _ => F b hb) ho' (fun z => absurd z (by decide)), by decide, by decide⟩
theorem L_lose {out : Nat} {o0 : Nat → Int64} (C : c_ch h Z x ad ow hd hf S) (W : m_wf S) (Zo : Z out) (ho : h out = some (.inr (2, 1, .inr (.inl o0)))) {r : Int32} {w : Int32} (hQ : m_app (fun x' a S' => ∀ h' o, c_CH h' Z x S' → (∀ b, Z b → b ≠ out → h' b = h b) → h' out = some (.inr (2, 1, .inr (.inl o))) → (x' = 7 → o 0 = a.toInt64) → Q (.inl (some (.int (m_ct 0 x')))) h') (f_lose S r w)) : T_L_lose [.ref x, .int r, .int w, .ref out] h Q := by
  have V := V_lose (r := r) (w := w) W
  (intro P hP; conv => whnf)
  repeat (first | (refine hP _ _ _ _ _ _ ?_; conv => whnf) | (refine ⟨fun q => absurd q (by decide), fun _ => ?_⟩) | (refine ⟨fun _ => ?_, fun q => absurd (by decide) q⟩) | (refine ac_get C.1 ?_; conv => whnf) | (refine ⟨_, C.1, Nat.le_of_ble_eq_true rfl, Nat.le_of_ble_eq_true rfl, Nat.le_of_ble_eq_true rfl, ?_⟩) | (refine ⟨Nat.le_of_ble_eq_true rfl, Nat.le_of_ble_eq_true rfl, Nat.le_of_ble_eq_true rfl, ?_⟩))
  refine C_lose C W ?_
  revert hQ V
  generalize f_lose S r w = t
  obtain ⟨x', a, S'⟩ := t
  intro hQ V h' CH F
  dsimp only [m_app] at hQ V CH ⊢
  obtain ⟨vx, vw, vm⟩ := V
  have ho' := (F out Zo).trans ho
  rcases vx with e | e | e | e | e
  · subst e
    repeat (first | (refine hP _ _ _ _ _ _ ?_; conv => whnf) | (refine ⟨fun q => absurd q (by decide), fun _ => ?_⟩) | (refine ⟨fun _ => ?_, fun q => absurd (by decide) q⟩) | (refine ac_get C.1 ?_; conv => whnf) | (refine ⟨_, C.1, Nat.le_of_ble_eq_true rfl, Nat.le_of_ble_eq_true rfl, Nat.le_of_ble_eq_true rfl, ?_⟩) | (refine ⟨Nat.le_of_ble_eq_true rfl, Nat.le_of_ble_eq_true rfl, Nat.le_of_ble_eq_true rfl, ?_⟩))
    refine ⟨_, _, ho', vp_in_nI (n := 0) (by decide) (by decide), ?_⟩
    repeat (first | (refine hP _ _ _ _ _ _ ?_; conv => whnf) | (refine ⟨fun q => absurd q (by decide), fun _ => ?_⟩) | (refine ⟨fun _ => ?_, fun q => absurd (by decide) q⟩) | (refine ac_get C.1 ?_; conv => whnf) | (refine ⟨_, C.1, Nat.le_of_ble_eq_true rfl, Nat.le_of_ble_eq_true rfl, Nat.le_of_ble_eq_true rfl, ?_⟩) | (refine ⟨Nat.le_of_ble_eq_true rfl, Nat.le_of_ble_eq_true rfl, Nat.le_of_ble_eq_true rfl, ?_⟩))
    exact ⟨rfl, hQ _ _ (c_zO CH vw Zo) (fun b hb nb => (ac_hsN nb).trans (F b hb)) ac_hsE (fun _ => vp_updE (k := 0)), by decide, by decide⟩
  · subst e
    (conv => whnf)
    refine ⟨by decide, ?_⟩
    (conv => whnf)
    intro a1
    repeat (first | (refine hP _ _ _ _ _ _ ?_; conv => whnf) | (refine ⟨fun q => absurd q (by decide), fun _ => ?_⟩) | (refine ⟨fun _ => ?_, fun q => absurd (by decide) q⟩) | (refine ac_get C.1 ?_; conv => whnf) | (refine ⟨_, C.1, Nat.le_of_ble_eq_true rfl, Nat.le_of_ble_eq_true rfl, Nat.le_of_ble_eq_true rfl, ?_⟩) | (refine ⟨Nat.le_of_ble_eq_true rfl, Nat.le_of_ble_eq_true rfl, Nat.le_of_ble_eq_true rfl, ?_⟩))
    exact ⟨rfl, hQ _ _ CH (fun b hb _ => F b hb) ho' (fun z => absurd z (by decide)), by decide, by decide⟩
  · subst e
    (conv => whnf)
    refine ⟨by decide, ?_⟩
    (conv => whnf)
    intro a1
    repeat (first | (refine hP _ _ _ _ _ _ ?_; conv => whnf) | (refine ⟨fun q => absurd q (by decide), fun _ => ?_⟩) | (refine ⟨fun _ => ?_, fun q => absurd (by decide) q⟩) | (refine ac_get C.1 ?_; conv => whnf) | (refine ⟨_, C.1, Nat.le_of_ble_eq_true rfl, Nat.le_of_ble_eq_true rfl, Nat.le_of_ble_eq_true rfl, ?_⟩) | (refine ⟨Nat.le_of_ble_eq_true rfl, Nat.le_of_ble_eq_true rfl, Nat.le_of_ble_eq_true rfl, ?_⟩))
    exact ⟨rfl, hQ _ _ CH (fun b hb _ => F b hb) ho' (fun z => absurd z (by decide)), by decide, by decide⟩
  · subst e
    (conv => whnf)
    refine ⟨by decide, ?_⟩
    (conv => whnf)
    intro a1
    repeat (first | (refine hP _ _ _ _ _ _ ?_; conv => whnf) | (refine ⟨fun q => absurd q (by decide), fun _ => ?_⟩) | (refine ⟨fun _ => ?_, fun q => absurd (by decide) q⟩) | (refine ac_get C.1 ?_; conv => whnf) | (refine ⟨_, C.1, Nat.le_of_ble_eq_true rfl, Nat.le_of_ble_eq_true rfl, Nat.le_of_ble_eq_true rfl, ?_⟩) | (refine ⟨Nat.le_of_ble_eq_true rfl, Nat.le_of_ble_eq_true rfl, Nat.le_of_ble_eq_true rfl, ?_⟩))
    exact ⟨rfl, hQ _ _ CH (fun b hb _ => F b hb) ho' (fun z => absurd z (by decide)), by decide, by decide⟩
  · subst e
    (conv => whnf)
    refine ⟨by decide, ?_⟩
    (conv => whnf)
    intro a1
    repeat (first | (refine hP _ _ _ _ _ _ ?_; conv => whnf) | (refine ⟨fun q => absurd q (by decide), fun _ => ?_⟩) | (refine ⟨fun _ => ?_, fun q => absurd (by decide) q⟩) | (refine ac_get C.1 ?_; conv => whnf) | (refine ⟨_, C.1, Nat.le_of_ble_eq_true rfl, Nat.le_of_ble_eq_true rfl, Nat.le_of_ble_eq_true rfl, ?_⟩) | (refine ⟨Nat.le_of_ble_eq_true rfl, Nat.le_of_ble_eq_true rfl, Nat.le_of_ble_eq_true rfl, ?_⟩))
    exact ⟨rfl, hQ _ _ CH (fun b hb _ => F b hb) ho' (fun z => absurd z (by decide)), by decide, by decide⟩
theorem L_resize {out : Nat} {o0 : Nat → Int64} (C : c_ch h Z x ad ow hd hf S) (W : m_wf S) (Zo : Z out) (ho : h out = some (.inr (2, 1, .inr (.inl o0)))) {r : Int32} {n : Int32} (hQ : m_app (fun x' a S' => ∀ h' o, c_CH h' Z x S' → (∀ b, Z b → b ≠ out → h' b = h b) → h' out = some (.inr (2, 1, .inr (.inl o))) → (x' = 7 → o 0 = a.toInt64) → Q (.inl (some (.int (m_ct 0 x')))) h') (f_resize S r n)) : T_L_resize [.ref x, .int r, .int n, .ref out] h Q := by
  have V := V_resize (r := r) (n := n) W
  (intro P hP; conv => whnf)
  repeat (first | (refine hP _ _ _ _ _ _ ?_; conv => whnf) | (refine ⟨fun q => absurd q (by decide), fun _ => ?_⟩) | (refine ⟨fun _ => ?_, fun q => absurd (by decide) q⟩) | (refine ac_get C.1 ?_; conv => whnf) | (refine ⟨_, C.1, Nat.le_of_ble_eq_true rfl, Nat.le_of_ble_eq_true rfl, Nat.le_of_ble_eq_true rfl, ?_⟩) | (refine ⟨Nat.le_of_ble_eq_true rfl, Nat.le_of_ble_eq_true rfl, Nat.le_of_ble_eq_true rfl, ?_⟩))
  refine C_resize C W ?_
  revert hQ V
  generalize f_resize S r n = t
  obtain ⟨x', a, S'⟩ := t
  intro hQ V h' CH F
  dsimp only [m_app] at hQ V CH ⊢
  obtain ⟨vx, vw, vm⟩ := V
  have ho' := (F out Zo).trans ho
  rcases vx with e | e | e | e | e
  · subst e
    repeat (first | (refine hP _ _ _ _ _ _ ?_; conv => whnf) | (refine ⟨fun q => absurd q (by decide), fun _ => ?_⟩) | (refine ⟨fun _ => ?_, fun q => absurd (by decide) q⟩) | (refine ac_get C.1 ?_; conv => whnf) | (refine ⟨_, C.1, Nat.le_of_ble_eq_true rfl, Nat.le_of_ble_eq_true rfl, Nat.le_of_ble_eq_true rfl, ?_⟩) | (refine ⟨Nat.le_of_ble_eq_true rfl, Nat.le_of_ble_eq_true rfl, Nat.le_of_ble_eq_true rfl, ?_⟩))
    refine ⟨_, _, ho', vp_in_nI (n := 0) (by decide) (by decide), ?_⟩
    repeat (first | (refine hP _ _ _ _ _ _ ?_; conv => whnf) | (refine ⟨fun q => absurd q (by decide), fun _ => ?_⟩) | (refine ⟨fun _ => ?_, fun q => absurd (by decide) q⟩) | (refine ac_get C.1 ?_; conv => whnf) | (refine ⟨_, C.1, Nat.le_of_ble_eq_true rfl, Nat.le_of_ble_eq_true rfl, Nat.le_of_ble_eq_true rfl, ?_⟩) | (refine ⟨Nat.le_of_ble_eq_true rfl, Nat.le_of_ble_eq_true rfl, Nat.le_of_ble_eq_true rfl, ?_⟩))
    exact ⟨rfl, hQ _ _ (c_zO CH vw Zo) (fun b hb nb => (ac_hsN nb).trans (F b hb)) ac_hsE (fun _ => vp_updE (k := 0)), by decide, by decide⟩
  · subst e
    (conv => whnf)
    refine ⟨by decide, ?_⟩
    (conv => whnf)
    intro a1
    repeat (first | (refine hP _ _ _ _ _ _ ?_; conv => whnf) | (refine ⟨fun q => absurd q (by decide), fun _ => ?_⟩) | (refine ⟨fun _ => ?_, fun q => absurd (by decide) q⟩) | (refine ac_get C.1 ?_; conv => whnf) | (refine ⟨_, C.1, Nat.le_of_ble_eq_true rfl, Nat.le_of_ble_eq_true rfl, Nat.le_of_ble_eq_true rfl, ?_⟩) | (refine ⟨Nat.le_of_ble_eq_true rfl, Nat.le_of_ble_eq_true rfl, Nat.le_of_ble_eq_true rfl, ?_⟩))
    exact ⟨rfl, hQ _ _ CH (fun b hb _ => F b hb) ho' (fun z => absurd z (by decide)), by decide, by decide⟩
  · subst e
    (conv => whnf)
    refine ⟨by decide, ?_⟩
    (conv => whnf)
    intro a1
    repeat (first | (refine hP _ _ _ _ _ _ ?_; conv => whnf) | (refine ⟨fun q => absurd q (by decide), fun _ => ?_⟩) | (refine ⟨fun _ => ?_, fun q => absurd (by decide) q⟩) | (refine ac_get C.1 ?_; conv => whnf) | (refine ⟨_, C.1, Nat.le_of_ble_eq_true rfl, Nat.le_of_ble_eq_true rfl, Nat.le_of_ble_eq_true rfl, ?_⟩) | (refine ⟨Nat.le_of_ble_eq_true rfl, Nat.le_of_ble_eq_true rfl, Nat.le_of_ble_eq_true rfl, ?_⟩))
    exact ⟨rfl, hQ _ _ CH (fun b hb _ => F b hb) ho' (fun z => absurd z (by decide)), by decide, by decide⟩
  · subst e
    (conv => whnf)
    refine ⟨by decide, ?_⟩
    (conv => whnf)
    intro a1
    repeat (first | (refine hP _ _ _ _ _ _ ?_; conv => whnf) | (refine ⟨fun q => absurd q (by decide), fun _ => ?_⟩) | (refine ⟨fun _ => ?_, fun q => absurd (by decide) q⟩) | (refine ac_get C.1 ?_; conv => whnf) | (refine ⟨_, C.1, Nat.le_of_ble_eq_true rfl, Nat.le_of_ble_eq_true rfl, Nat.le_of_ble_eq_true rfl, ?_⟩) | (refine ⟨Nat.le_of_ble_eq_true rfl, Nat.le_of_ble_eq_true rfl, Nat.le_of_ble_eq_true rfl, ?_⟩))
    exact ⟨rfl, hQ _ _ CH (fun b hb _ => F b hb) ho' (fun z => absurd z (by decide)), by decide, by decide⟩
  · subst e
    (conv => whnf)
    refine ⟨by decide, ?_⟩
    (conv => whnf)
    intro a1
    repeat (first | (refine hP _ _ _ _ _ _ ?_; conv => whnf) | (refine ⟨fun q => absurd q (by decide), fun _ => ?_⟩) | (refine ⟨fun _ => ?_, fun q => absurd (by decide) q⟩) | (refine ac_get C.1 ?_; conv => whnf) | (refine ⟨_, C.1, Nat.le_of_ble_eq_true rfl, Nat.le_of_ble_eq_true rfl, Nat.le_of_ble_eq_true rfl, ?_⟩) | (refine ⟨Nat.le_of_ble_eq_true rfl, Nat.le_of_ble_eq_true rfl, Nat.le_of_ble_eq_true rfl, ?_⟩))
    exact ⟨rfl, hQ _ _ CH (fun b hb _ => F b hb) ho' (fun z => absurd z (by decide)), by decide, by decide⟩
theorem L_size {out : Nat} {o0 : Nat → Int64} (C : c_ch h Z x ad ow hd hf S) (W : m_wf S) (Zo : Z out) (ho : h out = some (.inr (2, 1, .inr (.inl o0)))) {r : Int32} (hQ : m_app (fun x' a S' => ∀ h' o, c_CH h' Z x S' → (∀ b, Z b → b ≠ out → h' b = h b) → h' out = some (.inr (2, 1, .inr (.inl o))) → (x' = 7 → o 0 = a.toInt64) → Q (.inl (some (.int (m_ct 0 x')))) h') (f_size S r)) : T_L_size [.ref x, .int r, .ref out] h Q := by
  have V := V_size (r := r) W
  (intro P hP; conv => whnf)
  repeat (first | (refine hP _ _ _ _ _ _ ?_; conv => whnf) | (refine ⟨fun q => absurd q (by decide), fun _ => ?_⟩) | (refine ⟨fun _ => ?_, fun q => absurd (by decide) q⟩) | (refine ac_get C.1 ?_; conv => whnf) | (refine ⟨_, C.1, Nat.le_of_ble_eq_true rfl, Nat.le_of_ble_eq_true rfl, Nat.le_of_ble_eq_true rfl, ?_⟩) | (refine ⟨Nat.le_of_ble_eq_true rfl, Nat.le_of_ble_eq_true rfl, Nat.le_of_ble_eq_true rfl, ?_⟩))
  refine C_size C W ?_
  revert hQ V
  generalize f_size S r = t
  obtain ⟨x', a, S'⟩ := t
  intro hQ V h' CH F
  dsimp only [m_app] at hQ V CH ⊢
  obtain ⟨vx, vw, vm⟩ := V
  have ho' := (F out Zo).trans ho
  rcases vx with e | e | e | e
  · subst e
    repeat (first | (refine hP _ _ _ _ _ _ ?_; conv => whnf) | (refine ⟨fun q => absurd q (by decide), fun _ => ?_⟩) | (refine ⟨fun _ => ?_, fun q => absurd (by decide) q⟩) | (refine ac_get C.1 ?_; conv => whnf) | (refine ⟨_, C.1, Nat.le_of_ble_eq_true rfl, Nat.le_of_ble_eq_true rfl, Nat.le_of_ble_eq_true rfl, ?_⟩) | (refine ⟨Nat.le_of_ble_eq_true rfl, Nat.le_of_ble_eq_true rfl, Nat.le_of_ble_eq_true rfl, ?_⟩))
    refine ⟨_, _, ho', vp_in_nI (n := 0) (by decide) (by decide), ?_⟩
    repeat (first | (refine hP _ _ _ _ _ _ ?_; conv => whnf) | (refine ⟨fun q => absurd q (by decide), fun _ => ?_⟩) | (refine ⟨fun _ => ?_, fun q => absurd (by decide) q⟩) | (refine ac_get C.1 ?_; conv => whnf) | (refine ⟨_, C.1, Nat.le_of_ble_eq_true rfl, Nat.le_of_ble_eq_true rfl, Nat.le_of_ble_eq_true rfl, ?_⟩) | (refine ⟨Nat.le_of_ble_eq_true rfl, Nat.le_of_ble_eq_true rfl, Nat.le_of_ble_eq_true rfl, ?_⟩))
    exact ⟨rfl, hQ _ _ (c_zO CH vw Zo) (fun b hb nb => (ac_hsN nb).trans (F b hb)) ac_hsE (fun _ => vp_updE (k := 0)), by decide, by decide⟩
  · subst e
    (conv => whnf)
    refine ⟨by decide, ?_⟩
    (conv => whnf)
    intro a1
    repeat (first | (refine hP _ _ _ _ _ _ ?_; conv => whnf) | (refine ⟨fun q => absurd q (by decide), fun _ => ?_⟩) | (refine ⟨fun _ => ?_, fun q => absurd (by decide) q⟩) | (refine ac_get C.1 ?_; conv => whnf) | (refine ⟨_, C.1, Nat.le_of_ble_eq_true rfl, Nat.le_of_ble_eq_true rfl, Nat.le_of_ble_eq_true rfl, ?_⟩) | (refine ⟨Nat.le_of_ble_eq_true rfl, Nat.le_of_ble_eq_true rfl, Nat.le_of_ble_eq_true rfl, ?_⟩))
    exact ⟨rfl, hQ _ _ CH (fun b hb _ => F b hb) ho' (fun z => absurd z (by decide)), by decide, by decide⟩
  · subst e
    (conv => whnf)
    refine ⟨by decide, ?_⟩
    (conv => whnf)
    intro a1
    repeat (first | (refine hP _ _ _ _ _ _ ?_; conv => whnf) | (refine ⟨fun q => absurd q (by decide), fun _ => ?_⟩) | (refine ⟨fun _ => ?_, fun q => absurd (by decide) q⟩) | (refine ac_get C.1 ?_; conv => whnf) | (refine ⟨_, C.1, Nat.le_of_ble_eq_true rfl, Nat.le_of_ble_eq_true rfl, Nat.le_of_ble_eq_true rfl, ?_⟩) | (refine ⟨Nat.le_of_ble_eq_true rfl, Nat.le_of_ble_eq_true rfl, Nat.le_of_ble_eq_true rfl, ?_⟩))
    exact ⟨rfl, hQ _ _ CH (fun b hb _ => F b hb) ho' (fun z => absurd z (by decide)), by decide, by decide⟩
  · subst e
    (conv => whnf)
    refine ⟨by decide, ?_⟩
    (conv => whnf)
    intro a1
    repeat (first | (refine hP _ _ _ _ _ _ ?_; conv => whnf) | (refine ⟨fun q => absurd q (by decide), fun _ => ?_⟩) | (refine ⟨fun _ => ?_, fun q => absurd (by decide) q⟩) | (refine ac_get C.1 ?_; conv => whnf) | (refine ⟨_, C.1, Nat.le_of_ble_eq_true rfl, Nat.le_of_ble_eq_true rfl, Nat.le_of_ble_eq_true rfl, ?_⟩) | (refine ⟨Nat.le_of_ble_eq_true rfl, Nat.le_of_ble_eq_true rfl, Nat.le_of_ble_eq_true rfl, ?_⟩))
    exact ⟨rfl, hQ _ _ CH (fun b hb _ => F b hb) ho' (fun z => absurd z (by decide)), by decide, by decide⟩
theorem L_take {out : Nat} {o0 : Nat → Int64} (C : c_ch h Z x ad ow hd hf S) (W : m_wf S) (Zo : Z out) (ho : h out = some (.inr (2, 1, .inr (.inl o0)))) {r : Int32} {ix : Int32} (hQ : m_app (fun x' a S' => ∀ h' o, c_CH h' Z x S' → (∀ b, Z b → b ≠ out → h' b = h b) → h' out = some (.inr (2, 1, .inr (.inl o))) → (x' = 7 → o 0 = a) → Q (.inl (some (.int (m_ct 0 x')))) h') (f_take S r ix)) : T_L_take [.ref x, .int r, .int ix, .ref out] h Q := by
  have V := V_take (r := r) (ix := ix) W
  (intro P hP; conv => whnf)
  repeat (first | (refine hP _ _ _ _ _ _ ?_; conv => whnf) | (refine ⟨fun q => absurd q (by decide), fun _ => ?_⟩) | (refine ⟨fun _ => ?_, fun q => absurd (by decide) q⟩) | (refine ac_get C.1 ?_; conv => whnf) | (refine ⟨_, C.1, Nat.le_of_ble_eq_true rfl, Nat.le_of_ble_eq_true rfl, Nat.le_of_ble_eq_true rfl, ?_⟩) | (refine ⟨Nat.le_of_ble_eq_true rfl, Nat.le_of_ble_eq_true rfl, Nat.le_of_ble_eq_true rfl, ?_⟩))
  refine C_take C W ?_
  revert hQ V
  generalize f_take S r ix = t
  obtain ⟨x', a, S'⟩ := t
  intro hQ V h' CH F
  dsimp only [m_app] at hQ V CH ⊢
  obtain ⟨vx, vw, vm⟩ := V
  have ho' := (F out Zo).trans ho
  rcases vx with e | e | e | e | e
  · subst e
    repeat (first | (refine hP _ _ _ _ _ _ ?_; conv => whnf) | (refine ⟨fun q => absurd q (by decide), fun _ => ?_⟩) | (refine ⟨fun _ => ?_, fun q => absurd (by decide) q⟩) | (refine ac_get C.1 ?_; conv => whnf) | (refine ⟨_, C.1, Nat.le_of_ble_eq_true rfl, Nat.le_of_ble_eq_true rfl, Nat.le_of_ble_eq_true rfl, ?_⟩) | (refine ⟨Nat.le_of_ble_eq_true rfl, Nat.le_of_ble_eq_true rfl, Nat.le_of_ble_eq_true rfl, ?_⟩))
    refine ⟨_, _, ho', vp_in_nI (n := 0) (by decide) (by decide), ?_⟩
    repeat (first | (refine hP _ _ _ _ _ _ ?_; conv => whnf) | (refine ⟨fun q => absurd q (by decide), fun _ => ?_⟩) | (refine ⟨fun _ => ?_, fun q => absurd (by decide) q⟩) | (refine ac_get C.1 ?_; conv => whnf) | (refine ⟨_, C.1, Nat.le_of_ble_eq_true rfl, Nat.le_of_ble_eq_true rfl, Nat.le_of_ble_eq_true rfl, ?_⟩) | (refine ⟨Nat.le_of_ble_eq_true rfl, Nat.le_of_ble_eq_true rfl, Nat.le_of_ble_eq_true rfl, ?_⟩))
    exact ⟨rfl, hQ _ _ (c_zO CH vw Zo) (fun b hb nb => (ac_hsN nb).trans (F b hb)) ac_hsE (fun _ => vp_updE (k := 0)), by decide, by decide⟩
  · subst e
    (conv => whnf)
    refine ⟨by decide, ?_⟩
    (conv => whnf)
    intro a1
    repeat (first | (refine hP _ _ _ _ _ _ ?_; conv => whnf) | (refine ⟨fun q => absurd q (by decide), fun _ => ?_⟩) | (refine ⟨fun _ => ?_, fun q => absurd (by decide) q⟩) | (refine ac_get C.1 ?_; conv => whnf) | (refine ⟨_, C.1, Nat.le_of_ble_eq_true rfl, Nat.le_of_ble_eq_true rfl, Nat.le_of_ble_eq_true rfl, ?_⟩) | (refine ⟨Nat.le_of_ble_eq_true rfl, Nat.le_of_ble_eq_true rfl, Nat.le_of_ble_eq_true rfl, ?_⟩))
    exact ⟨rfl, hQ _ _ CH (fun b hb _ => F b hb) ho' (fun z => absurd z (by decide)), by decide, by decide⟩
  · subst e
    (conv => whnf)
    refine ⟨by decide, ?_⟩
    (conv => whnf)
    intro a1
    repeat (first | (refine hP _ _ _ _ _ _ ?_; conv => whnf) | (refine ⟨fun q => absurd q (by decide), fun _ => ?_⟩) | (refine ⟨fun _ => ?_, fun q => absurd (by decide) q⟩) | (refine ac_get C.1 ?_; conv => whnf) | (refine ⟨_, C.1, Nat.le_of_ble_eq_true rfl, Nat.le_of_ble_eq_true rfl, Nat.le_of_ble_eq_true rfl, ?_⟩) | (refine ⟨Nat.le_of_ble_eq_true rfl, Nat.le_of_ble_eq_true rfl, Nat.le_of_ble_eq_true rfl, ?_⟩))
    exact ⟨rfl, hQ _ _ CH (fun b hb _ => F b hb) ho' (fun z => absurd z (by decide)), by decide, by decide⟩
  · subst e
    (conv => whnf)
    refine ⟨by decide, ?_⟩
    (conv => whnf)
    intro a1
    repeat (first | (refine hP _ _ _ _ _ _ ?_; conv => whnf) | (refine ⟨fun q => absurd q (by decide), fun _ => ?_⟩) | (refine ⟨fun _ => ?_, fun q => absurd (by decide) q⟩) | (refine ac_get C.1 ?_; conv => whnf) | (refine ⟨_, C.1, Nat.le_of_ble_eq_true rfl, Nat.le_of_ble_eq_true rfl, Nat.le_of_ble_eq_true rfl, ?_⟩) | (refine ⟨Nat.le_of_ble_eq_true rfl, Nat.le_of_ble_eq_true rfl, Nat.le_of_ble_eq_true rfl, ?_⟩))
    exact ⟨rfl, hQ _ _ CH (fun b hb _ => F b hb) ho' (fun z => absurd z (by decide)), by decide, by decide⟩
  · subst e
    (conv => whnf)
    refine ⟨by decide, ?_⟩
    (conv => whnf)
    intro a1
    repeat (first | (refine hP _ _ _ _ _ _ ?_; conv => whnf) | (refine ⟨fun q => absurd q (by decide), fun _ => ?_⟩) | (refine ⟨fun _ => ?_, fun q => absurd (by decide) q⟩) | (refine ac_get C.1 ?_; conv => whnf) | (refine ⟨_, C.1, Nat.le_of_ble_eq_true rfl, Nat.le_of_ble_eq_true rfl, Nat.le_of_ble_eq_true rfl, ?_⟩) | (refine ⟨Nat.le_of_ble_eq_true rfl, Nat.le_of_ble_eq_true rfl, Nat.le_of_ble_eq_true rfl, ?_⟩))
    exact ⟨rfl, hQ _ _ CH (fun b hb _ => F b hb) ho' (fun z => absurd z (by decide)), by decide, by decide⟩
theorem L_put {out : Nat} {o0 : Nat → Int64} (C : c_ch h Z x ad ow hd hf S) (W : m_wf S) (Zo : Z out) (ho : h out = some (.inr (2, 1, .inr (.inl o0)))) {r : Int32} {ix : Int32} {v : Int64} (hQ : m_app (fun x' a S' => ∀ h' o, c_CH h' Z x S' → (∀ b, Z b → b ≠ out → h' b = h b) → h' out = some (.inr (2, 1, .inr (.inl o))) → (x' = 7 → o 0 = a) → Q (.inl (some (.int (m_ct 0 x')))) h') (f_put S r ix v)) : T_L_put [.ref x, .int r, .int ix, .long v, .ref out] h Q := by
  have V := V_put (r := r) (ix := ix) (v := v) W
  (intro P hP; conv => whnf)
  repeat (first | (refine hP _ _ _ _ _ _ ?_; conv => whnf) | (refine ⟨fun q => absurd q (by decide), fun _ => ?_⟩) | (refine ⟨fun _ => ?_, fun q => absurd (by decide) q⟩) | (refine ac_get C.1 ?_; conv => whnf) | (refine ⟨_, C.1, Nat.le_of_ble_eq_true rfl, Nat.le_of_ble_eq_true rfl, Nat.le_of_ble_eq_true rfl, ?_⟩) | (refine ⟨Nat.le_of_ble_eq_true rfl, Nat.le_of_ble_eq_true rfl, Nat.le_of_ble_eq_true rfl, ?_⟩))
  refine C_put C W ?_
  revert hQ V
  generalize f_put S r ix v = t
  obtain ⟨x', a, S'⟩ := t
  intro hQ V h' CH F
  dsimp only [m_app] at hQ V CH ⊢
  obtain ⟨vx, vw, vm⟩ := V
  have ho' := (F out Zo).trans ho
  rcases vx with e | e | e | e | e
  · subst e
    repeat (first | (refine hP _ _ _ _ _ _ ?_; conv => whnf) | (refine ⟨fun q => absurd q (by decide), fun _ => ?_⟩) | (refine ⟨fun _ => ?_, fun q => absurd (by decide) q⟩) | (refine ac_get C.1 ?_; conv => whnf) | (refine ⟨_, C.1, Nat.le_of_ble_eq_true rfl, Nat.le_of_ble_eq_true rfl, Nat.le_of_ble_eq_true rfl, ?_⟩) | (refine ⟨Nat.le_of_ble_eq_true rfl, Nat.le_of_ble_eq_true rfl, Nat.le_of_ble_eq_true rfl, ?_⟩))
    refine ⟨_, _, ho', vp_in_nI (n := 0) (by decide) (by decide), ?_⟩
    repeat (first | (refine hP _ _ _ _ _ _ ?_; conv => whnf) | (refine ⟨fun q => absurd q (by decide), fun _ => ?_⟩) | (refine ⟨fun _ => ?_, fun q => absurd (by decide) q⟩) | (refine ac_get C.1 ?_; conv => whnf) | (refine ⟨_, C.1, Nat.le_of_ble_eq_true rfl, Nat.le_of_ble_eq_true rfl, Nat.le_of_ble_eq_true rfl, ?_⟩) | (refine ⟨Nat.le_of_ble_eq_true rfl, Nat.le_of_ble_eq_true rfl, Nat.le_of_ble_eq_true rfl, ?_⟩))
    exact ⟨rfl, hQ _ _ (c_zO CH vw Zo) (fun b hb nb => (ac_hsN nb).trans (F b hb)) ac_hsE (fun _ => vp_updE (k := 0)), by decide, by decide⟩
  · subst e
    (conv => whnf)
    refine ⟨by decide, ?_⟩
    (conv => whnf)
    intro a1
    repeat (first | (refine hP _ _ _ _ _ _ ?_; conv => whnf) | (refine ⟨fun q => absurd q (by decide), fun _ => ?_⟩) | (refine ⟨fun _ => ?_, fun q => absurd (by decide) q⟩) | (refine ac_get C.1 ?_; conv => whnf) | (refine ⟨_, C.1, Nat.le_of_ble_eq_true rfl, Nat.le_of_ble_eq_true rfl, Nat.le_of_ble_eq_true rfl, ?_⟩) | (refine ⟨Nat.le_of_ble_eq_true rfl, Nat.le_of_ble_eq_true rfl, Nat.le_of_ble_eq_true rfl, ?_⟩))
    exact ⟨rfl, hQ _ _ CH (fun b hb _ => F b hb) ho' (fun z => absurd z (by decide)), by decide, by decide⟩
  · subst e
    (conv => whnf)
    refine ⟨by decide, ?_⟩
    (conv => whnf)
    intro a1
    repeat (first | (refine hP _ _ _ _ _ _ ?_; conv => whnf) | (refine ⟨fun q => absurd q (by decide), fun _ => ?_⟩) | (refine ⟨fun _ => ?_, fun q => absurd (by decide) q⟩) | (refine ac_get C.1 ?_; conv => whnf) | (refine ⟨_, C.1, Nat.le_of_ble_eq_true rfl, Nat.le_of_ble_eq_true rfl, Nat.le_of_ble_eq_true rfl, ?_⟩) | (refine ⟨Nat.le_of_ble_eq_true rfl, Nat.le_of_ble_eq_true rfl, Nat.le_of_ble_eq_true rfl, ?_⟩))
    exact ⟨rfl, hQ _ _ CH (fun b hb _ => F b hb) ho' (fun z => absurd z (by decide)), by decide, by decide⟩
  · subst e
    (conv => whnf)
    refine ⟨by decide, ?_⟩
    (conv => whnf)
    intro a1
    repeat (first | (refine hP _ _ _ _ _ _ ?_; conv => whnf) | (refine ⟨fun q => absurd q (by decide), fun _ => ?_⟩) | (refine ⟨fun _ => ?_, fun q => absurd (by decide) q⟩) | (refine ac_get C.1 ?_; conv => whnf) | (refine ⟨_, C.1, Nat.le_of_ble_eq_true rfl, Nat.le_of_ble_eq_true rfl, Nat.le_of_ble_eq_true rfl, ?_⟩) | (refine ⟨Nat.le_of_ble_eq_true rfl, Nat.le_of_ble_eq_true rfl, Nat.le_of_ble_eq_true rfl, ?_⟩))
    exact ⟨rfl, hQ _ _ CH (fun b hb _ => F b hb) ho' (fun z => absurd z (by decide)), by decide, by decide⟩
  · subst e
    (conv => whnf)
    refine ⟨by decide, ?_⟩
    (conv => whnf)
    intro a1
    repeat (first | (refine hP _ _ _ _ _ _ ?_; conv => whnf) | (refine ⟨fun q => absurd q (by decide), fun _ => ?_⟩) | (refine ⟨fun _ => ?_, fun q => absurd (by decide) q⟩) | (refine ac_get C.1 ?_; conv => whnf) | (refine ⟨_, C.1, Nat.le_of_ble_eq_true rfl, Nat.le_of_ble_eq_true rfl, Nat.le_of_ble_eq_true rfl, ?_⟩) | (refine ⟨Nat.le_of_ble_eq_true rfl, Nat.le_of_ble_eq_true rfl, Nat.le_of_ble_eq_true rfl, ?_⟩))
    exact ⟨rfl, hQ _ _ CH (fun b hb _ => F b hb) ho' (fun z => absurd z (by decide)), by decide, by decide⟩
theorem L_cell {out : Nat} {o0 : Nat → Int64} (C : c_ch h Z x ad ow hd hf S) (W : m_wf S) (Zo : Z out) (ho : h out = some (.inr (2, 1, .inr (.inl o0)))) {r : Int32} {w : Int32} {c : Int32} (hQ : m_app (fun x' a S' => ∀ h' o, c_CH h' Z x S' → (∀ b, Z b → b ≠ out → h' b = h b) → h' out = some (.inr (2, 1, .inr (.inl o))) → (x' = 7 → o 0 = a.toInt64) → Q (.inl (some (.int (m_ct 1 x')))) h') (f_cell S r w c)) : T_L_cell [.ref x, .int r, .int w, .int c, .ref out] h Q := by
  have V := V_cell (r := r) (w := w) (c := c) W
  (intro P hP; conv => whnf)
  repeat (first | (refine hP _ _ _ _ _ _ ?_; conv => whnf) | (refine ⟨fun q => absurd q (by decide), fun _ => ?_⟩) | (refine ⟨fun _ => ?_, fun q => absurd (by decide) q⟩) | (refine ac_get C.1 ?_; conv => whnf) | (refine ⟨_, C.1, Nat.le_of_ble_eq_true rfl, Nat.le_of_ble_eq_true rfl, Nat.le_of_ble_eq_true rfl, ?_⟩) | (refine ⟨Nat.le_of_ble_eq_true rfl, Nat.le_of_ble_eq_true rfl, Nat.le_of_ble_eq_true rfl, ?_⟩))
  refine C_cell C W ?_
  revert hQ V
  generalize f_cell S r w c = t
  obtain ⟨x', a, S'⟩ := t
  intro hQ V h' CH F
  dsimp only [m_app] at hQ V CH ⊢
  obtain ⟨vx, vw, vm⟩ := V
  have ho' := (F out Zo).trans ho
  rcases vx with e | e | e | e | e
  · subst e
    repeat (first | (refine hP _ _ _ _ _ _ ?_; conv => whnf) | (refine ⟨fun q => absurd q (by decide), fun _ => ?_⟩) | (refine ⟨fun _ => ?_, fun q => absurd (by decide) q⟩) | (refine ac_get C.1 ?_; conv => whnf) | (refine ⟨_, C.1, Nat.le_of_ble_eq_true rfl, Nat.le_of_ble_eq_true rfl, Nat.le_of_ble_eq_true rfl, ?_⟩) | (refine ⟨Nat.le_of_ble_eq_true rfl, Nat.le_of_ble_eq_true rfl, Nat.le_of_ble_eq_true rfl, ?_⟩))
    refine ⟨_, _, ho', vp_in_nI (n := 0) (by decide) (by decide), ?_⟩
    repeat (first | (refine hP _ _ _ _ _ _ ?_; conv => whnf) | (refine ⟨fun q => absurd q (by decide), fun _ => ?_⟩) | (refine ⟨fun _ => ?_, fun q => absurd (by decide) q⟩) | (refine ac_get C.1 ?_; conv => whnf) | (refine ⟨_, C.1, Nat.le_of_ble_eq_true rfl, Nat.le_of_ble_eq_true rfl, Nat.le_of_ble_eq_true rfl, ?_⟩) | (refine ⟨Nat.le_of_ble_eq_true rfl, Nat.le_of_ble_eq_true rfl, Nat.le_of_ble_eq_true rfl, ?_⟩))
    exact ⟨rfl, hQ _ _ (c_zO CH vw Zo) (fun b hb nb => (ac_hsN nb).trans (F b hb)) ac_hsE (fun _ => vp_updE (k := 0)), by decide, by decide⟩
  · subst e
    (conv => whnf)
    refine ⟨by decide, ?_⟩
    (conv => whnf)
    intro a1
    repeat (first | (refine hP _ _ _ _ _ _ ?_; conv => whnf) | (refine ⟨fun q => absurd q (by decide), fun _ => ?_⟩) | (refine ⟨fun _ => ?_, fun q => absurd (by decide) q⟩) | (refine ac_get C.1 ?_; conv => whnf) | (refine ⟨_, C.1, Nat.le_of_ble_eq_true rfl, Nat.le_of_ble_eq_true rfl, Nat.le_of_ble_eq_true rfl, ?_⟩) | (refine ⟨Nat.le_of_ble_eq_true rfl, Nat.le_of_ble_eq_true rfl, Nat.le_of_ble_eq_true rfl, ?_⟩))
    exact ⟨rfl, hQ _ _ CH (fun b hb _ => F b hb) ho' (fun z => absurd z (by decide)), by decide, by decide⟩
  · subst e
    (conv => whnf)
    refine ⟨by decide, ?_⟩
    (conv => whnf)
    intro a1
    repeat (first | (refine hP _ _ _ _ _ _ ?_; conv => whnf) | (refine ⟨fun q => absurd q (by decide), fun _ => ?_⟩) | (refine ⟨fun _ => ?_, fun q => absurd (by decide) q⟩) | (refine ac_get C.1 ?_; conv => whnf) | (refine ⟨_, C.1, Nat.le_of_ble_eq_true rfl, Nat.le_of_ble_eq_true rfl, Nat.le_of_ble_eq_true rfl, ?_⟩) | (refine ⟨Nat.le_of_ble_eq_true rfl, Nat.le_of_ble_eq_true rfl, Nat.le_of_ble_eq_true rfl, ?_⟩))
    exact ⟨rfl, hQ _ _ CH (fun b hb _ => F b hb) ho' (fun z => absurd z (by decide)), by decide, by decide⟩
  · subst e
    (conv => whnf)
    refine ⟨by decide, ?_⟩
    (conv => whnf)
    intro a1
    repeat (first | (refine hP _ _ _ _ _ _ ?_; conv => whnf) | (refine ⟨fun q => absurd q (by decide), fun _ => ?_⟩) | (refine ⟨fun _ => ?_, fun q => absurd (by decide) q⟩) | (refine ac_get C.1 ?_; conv => whnf) | (refine ⟨_, C.1, Nat.le_of_ble_eq_true rfl, Nat.le_of_ble_eq_true rfl, Nat.le_of_ble_eq_true rfl, ?_⟩) | (refine ⟨Nat.le_of_ble_eq_true rfl, Nat.le_of_ble_eq_true rfl, Nat.le_of_ble_eq_true rfl, ?_⟩))
    exact ⟨rfl, hQ _ _ CH (fun b hb _ => F b hb) ho' (fun z => absurd z (by decide)), by decide, by decide⟩
  · subst e
    (conv => whnf)
    refine ⟨by decide, ?_⟩
    (conv => whnf)
    intro a1
    repeat (first | (refine hP _ _ _ _ _ _ ?_; conv => whnf) | (refine ⟨fun q => absurd q (by decide), fun _ => ?_⟩) | (refine ⟨fun _ => ?_, fun q => absurd (by decide) q⟩) | (refine ac_get C.1 ?_; conv => whnf) | (refine ⟨_, C.1, Nat.le_of_ble_eq_true rfl, Nat.le_of_ble_eq_true rfl, Nat.le_of_ble_eq_true rfl, ?_⟩) | (refine ⟨Nat.le_of_ble_eq_true rfl, Nat.le_of_ble_eq_true rfl, Nat.le_of_ble_eq_true rfl, ?_⟩))
    exact ⟨rfl, hQ _ _ CH (fun b hb _ => F b hb) ho' (fun z => absurd z (by decide)), by decide, by decide⟩
theorem L_setCell (C : c_ch h Z x ad ow hd hf S) (W : m_wf S) {r : Int32} {w : Int32} {c : Int32} {v : Int32} {d : Int32} (hQ : m_app (fun x' _ S' => ∀ h', c_CH h' Z x S' → c_fz Z h h' → Q (.inl (some (.int (m_ct 1 x')))) h') (f_setCell S r w c v d)) : T_L_setCell [.ref x, .int r, .int w, .int c, .int v, .int d] h Q := by
  have V := V_setCell (r := r) (w := w) (c := c) (v := v) (d := d) W
  (intro P hP; conv => whnf)
  repeat (first | (refine hP _ _ _ _ _ _ ?_; conv => whnf) | (refine ⟨fun q => absurd q (by decide), fun _ => ?_⟩) | (refine ⟨fun _ => ?_, fun q => absurd (by decide) q⟩) | (refine ac_get C.1 ?_; conv => whnf) | (refine ⟨_, C.1, Nat.le_of_ble_eq_true rfl, Nat.le_of_ble_eq_true rfl, Nat.le_of_ble_eq_true rfl, ?_⟩) | (refine ⟨Nat.le_of_ble_eq_true rfl, Nat.le_of_ble_eq_true rfl, Nat.le_of_ble_eq_true rfl, ?_⟩))
  refine C_setCell C W ?_
  revert hQ V
  generalize f_setCell S r w c v d = t
  obtain ⟨x', a, S'⟩ := t
  intro hQ V h' CH F
  dsimp only [m_app] at hQ V CH ⊢
  obtain ⟨vx, vw, vm⟩ := V
  rcases vx with e | e | e | e | e | e
  · subst e
    repeat (first | (refine hP _ _ _ _ _ _ ?_; conv => whnf) | (refine ⟨fun q => absurd q (by decide), fun _ => ?_⟩) | (refine ⟨fun _ => ?_, fun q => absurd (by decide) q⟩) | (refine ac_get C.1 ?_; conv => whnf) | (refine ⟨_, C.1, Nat.le_of_ble_eq_true rfl, Nat.le_of_ble_eq_true rfl, Nat.le_of_ble_eq_true rfl, ?_⟩) | (refine ⟨Nat.le_of_ble_eq_true rfl, Nat.le_of_ble_eq_true rfl, Nat.le_of_ble_eq_true rfl, ?_⟩))
    exact ⟨rfl, hQ _ CH F, by decide, by decide⟩
  · subst e
    (conv => whnf)
    refine ⟨by decide, ?_⟩
    (conv => whnf)
    intro a1
    repeat (first | (refine hP _ _ _ _ _ _ ?_; conv => whnf) | (refine ⟨fun q => absurd q (by decide), fun _ => ?_⟩) | (refine ⟨fun _ => ?_, fun q => absurd (by decide) q⟩) | (refine ac_get C.1 ?_; conv => whnf) | (refine ⟨_, C.1, Nat.le_of_ble_eq_true rfl, Nat.le_of_ble_eq_true rfl, Nat.le_of_ble_eq_true rfl, ?_⟩) | (refine ⟨Nat.le_of_ble_eq_true rfl, Nat.le_of_ble_eq_true rfl, Nat.le_of_ble_eq_true rfl, ?_⟩))
    exact ⟨rfl, hQ _ CH F, by decide, by decide⟩
  · subst e
    (conv => whnf)
    refine ⟨by decide, ?_⟩
    (conv => whnf)
    intro a1
    repeat (first | (refine hP _ _ _ _ _ _ ?_; conv => whnf) | (refine ⟨fun q => absurd q (by decide), fun _ => ?_⟩) | (refine ⟨fun _ => ?_, fun q => absurd (by decide) q⟩) | (refine ac_get C.1 ?_; conv => whnf) | (refine ⟨_, C.1, Nat.le_of_ble_eq_true rfl, Nat.le_of_ble_eq_true rfl, Nat.le_of_ble_eq_true rfl, ?_⟩) | (refine ⟨Nat.le_of_ble_eq_true rfl, Nat.le_of_ble_eq_true rfl, Nat.le_of_ble_eq_true rfl, ?_⟩))
    exact ⟨rfl, hQ _ CH F, by decide, by decide⟩
  · subst e
    (conv => whnf)
    refine ⟨by decide, ?_⟩
    (conv => whnf)
    intro a1
    repeat (first | (refine hP _ _ _ _ _ _ ?_; conv => whnf) | (refine ⟨fun q => absurd q (by decide), fun _ => ?_⟩) | (refine ⟨fun _ => ?_, fun q => absurd (by decide) q⟩) | (refine ac_get C.1 ?_; conv => whnf) | (refine ⟨_, C.1, Nat.le_of_ble_eq_true rfl, Nat.le_of_ble_eq_true rfl, Nat.le_of_ble_eq_true rfl, ?_⟩) | (refine ⟨Nat.le_of_ble_eq_true rfl, Nat.le_of_ble_eq_true rfl, Nat.le_of_ble_eq_true rfl, ?_⟩))
    exact ⟨rfl, hQ _ CH F, by decide, by decide⟩
  · subst e
    (conv => whnf)
    refine ⟨by decide, ?_⟩
    (conv => whnf)
    intro a1
    repeat (first | (refine hP _ _ _ _ _ _ ?_; conv => whnf) | (refine ⟨fun q => absurd q (by decide), fun _ => ?_⟩) | (refine ⟨fun _ => ?_, fun q => absurd (by decide) q⟩) | (refine ac_get C.1 ?_; conv => whnf) | (refine ⟨_, C.1, Nat.le_of_ble_eq_true rfl, Nat.le_of_ble_eq_true rfl, Nat.le_of_ble_eq_true rfl, ?_⟩) | (refine ⟨Nat.le_of_ble_eq_true rfl, Nat.le_of_ble_eq_true rfl, Nat.le_of_ble_eq_true rfl, ?_⟩))
    exact ⟨rfl, hQ _ CH F, by decide, by decide⟩
  · subst e
    (conv => whnf)
    refine ⟨by decide, ?_⟩
    (conv => whnf)
    intro a1
    repeat (first | (refine hP _ _ _ _ _ _ ?_; conv => whnf) | (refine ⟨fun q => absurd q (by decide), fun _ => ?_⟩) | (refine ⟨fun _ => ?_, fun q => absurd (by decide) q⟩) | (refine ac_get C.1 ?_; conv => whnf) | (refine ⟨_, C.1, Nat.le_of_ble_eq_true rfl, Nat.le_of_ble_eq_true rfl, Nat.le_of_ble_eq_true rfl, ?_⟩) | (refine ⟨Nat.le_of_ble_eq_true rfl, Nat.le_of_ble_eq_true rfl, Nat.le_of_ble_eq_true rfl, ?_⟩))
    exact ⟨rfl, hQ _ CH F, by decide, by decide⟩
theorem L_refer (C : c_ch h Z x ad ow hd hf S) (W : m_wf S) {r : Int32} {ix : Int32} {f : Int32} (hQ : m_app (fun x' _ S' => ∀ h', c_CH h' Z x S' → c_fz Z h h' → Q (.inl (some (.int (m_ct 0 x')))) h') (f_refer S r ix f)) : T_L_refer [.ref x, .int r, .int ix, .int f] h Q := by
  have V := V_refer (r := r) (ix := ix) (f := f) W
  (intro P hP; conv => whnf)
  repeat (first | (refine hP _ _ _ _ _ _ ?_; conv => whnf) | (refine ⟨fun q => absurd q (by decide), fun _ => ?_⟩) | (refine ⟨fun _ => ?_, fun q => absurd (by decide) q⟩) | (refine ac_get C.1 ?_; conv => whnf) | (refine ⟨_, C.1, Nat.le_of_ble_eq_true rfl, Nat.le_of_ble_eq_true rfl, Nat.le_of_ble_eq_true rfl, ?_⟩) | (refine ⟨Nat.le_of_ble_eq_true rfl, Nat.le_of_ble_eq_true rfl, Nat.le_of_ble_eq_true rfl, ?_⟩))
  refine C_refer C W ?_
  revert hQ V
  generalize f_refer S r ix f = t
  obtain ⟨x', a, S'⟩ := t
  intro hQ V h' CH F
  dsimp only [m_app] at hQ V CH ⊢
  obtain ⟨vx, vw, vm⟩ := V
  rcases vx with e | e | e | e | e
  · subst e
    repeat (first | (refine hP _ _ _ _ _ _ ?_; conv => whnf) | (refine ⟨fun q => absurd q (by decide), fun _ => ?_⟩) | (refine ⟨fun _ => ?_, fun q => absurd (by decide) q⟩) | (refine ac_get C.1 ?_; conv => whnf) | (refine ⟨_, C.1, Nat.le_of_ble_eq_true rfl, Nat.le_of_ble_eq_true rfl, Nat.le_of_ble_eq_true rfl, ?_⟩) | (refine ⟨Nat.le_of_ble_eq_true rfl, Nat.le_of_ble_eq_true rfl, Nat.le_of_ble_eq_true rfl, ?_⟩))
    exact ⟨rfl, hQ _ CH F, by decide, by decide⟩
  · subst e
    (conv => whnf)
    refine ⟨by decide, ?_⟩
    (conv => whnf)
    intro a1
    repeat (first | (refine hP _ _ _ _ _ _ ?_; conv => whnf) | (refine ⟨fun q => absurd q (by decide), fun _ => ?_⟩) | (refine ⟨fun _ => ?_, fun q => absurd (by decide) q⟩) | (refine ac_get C.1 ?_; conv => whnf) | (refine ⟨_, C.1, Nat.le_of_ble_eq_true rfl, Nat.le_of_ble_eq_true rfl, Nat.le_of_ble_eq_true rfl, ?_⟩) | (refine ⟨Nat.le_of_ble_eq_true rfl, Nat.le_of_ble_eq_true rfl, Nat.le_of_ble_eq_true rfl, ?_⟩))
    exact ⟨rfl, hQ _ CH F, by decide, by decide⟩
  · subst e
    (conv => whnf)
    refine ⟨by decide, ?_⟩
    (conv => whnf)
    intro a1
    repeat (first | (refine hP _ _ _ _ _ _ ?_; conv => whnf) | (refine ⟨fun q => absurd q (by decide), fun _ => ?_⟩) | (refine ⟨fun _ => ?_, fun q => absurd (by decide) q⟩) | (refine ac_get C.1 ?_; conv => whnf) | (refine ⟨_, C.1, Nat.le_of_ble_eq_true rfl, Nat.le_of_ble_eq_true rfl, Nat.le_of_ble_eq_true rfl, ?_⟩) | (refine ⟨Nat.le_of_ble_eq_true rfl, Nat.le_of_ble_eq_true rfl, Nat.le_of_ble_eq_true rfl, ?_⟩))
    exact ⟨rfl, hQ _ CH F, by decide, by decide⟩
  · subst e
    (conv => whnf)
    refine ⟨by decide, ?_⟩
    (conv => whnf)
    intro a1
    repeat (first | (refine hP _ _ _ _ _ _ ?_; conv => whnf) | (refine ⟨fun q => absurd q (by decide), fun _ => ?_⟩) | (refine ⟨fun _ => ?_, fun q => absurd (by decide) q⟩) | (refine ac_get C.1 ?_; conv => whnf) | (refine ⟨_, C.1, Nat.le_of_ble_eq_true rfl, Nat.le_of_ble_eq_true rfl, Nat.le_of_ble_eq_true rfl, ?_⟩) | (refine ⟨Nat.le_of_ble_eq_true rfl, Nat.le_of_ble_eq_true rfl, Nat.le_of_ble_eq_true rfl, ?_⟩))
    exact ⟨rfl, hQ _ CH F, by decide, by decide⟩
  · subst e
    (conv => whnf)
    refine ⟨by decide, ?_⟩
    (conv => whnf)
    intro a1
    repeat (first | (refine hP _ _ _ _ _ _ ?_; conv => whnf) | (refine ⟨fun q => absurd q (by decide), fun _ => ?_⟩) | (refine ⟨fun _ => ?_, fun q => absurd (by decide) q⟩) | (refine ac_get C.1 ?_; conv => whnf) | (refine ⟨_, C.1, Nat.le_of_ble_eq_true rfl, Nat.le_of_ble_eq_true rfl, Nat.le_of_ble_eq_true rfl, ?_⟩) | (refine ⟨Nat.le_of_ble_eq_true rfl, Nat.le_of_ble_eq_true rfl, Nat.le_of_ble_eq_true rfl, ?_⟩))
    exact ⟨rfl, hQ _ CH F, by decide, by decide⟩
theorem L_fetch {out : Nat} {o0 : Nat → Int64} (C : c_ch h Z x ad ow hd hf S) (W : m_wf S) (Zo : Z out) (ho : h out = some (.inr (2, 1, .inr (.inl o0)))) {t : Int32} {r : Int32} {ix : Int32} (hQ : m_app (fun x' a S' => ∀ h' o, c_CH h' Z x S' → (∀ b, Z b → b ≠ out → h' b = h b) → h' out = some (.inr (2, 1, .inr (.inl o))) → (x' = 7 → o 0 = a.toInt64) → Q (.inl (some (.int (m_ct 0 x')))) h') (f_fetch S t r ix)) : T_L_fetch [.ref x, .int t, .int r, .int ix, .ref out] h Q := by
  have V := V_fetch (t := t) (r := r) (ix := ix) W
  (intro P hP; conv => whnf)
  repeat (first | (refine hP _ _ _ _ _ _ ?_; conv => whnf) | (refine ⟨fun q => absurd q (by decide), fun _ => ?_⟩) | (refine ⟨fun _ => ?_, fun q => absurd (by decide) q⟩) | (refine ac_get C.1 ?_; conv => whnf) | (refine ⟨_, C.1, Nat.le_of_ble_eq_true rfl, Nat.le_of_ble_eq_true rfl, Nat.le_of_ble_eq_true rfl, ?_⟩) | (refine ⟨Nat.le_of_ble_eq_true rfl, Nat.le_of_ble_eq_true rfl, Nat.le_of_ble_eq_true rfl, ?_⟩))
  refine C_fetch C W ?_
  revert hQ V
  generalize f_fetch S t r ix = t
  obtain ⟨x', a, S'⟩ := t
  intro hQ V h' CH F
  dsimp only [m_app] at hQ V CH ⊢
  obtain ⟨vx, vw, vm⟩ := V
  have ho' := (F out Zo).trans ho
  rcases vx with e | e | e | e | e
  · subst e
    repeat (first | (refine hP _ _ _ _ _ _ ?_; conv => whnf) | (refine ⟨fun q => absurd q (by decide), fun _ => ?_⟩) | (refine ⟨fun _ => ?_, fun q => absurd (by decide) q⟩) | (refine ac_get C.1 ?_; conv => whnf) | (refine ⟨_, C.1, Nat.le_of_ble_eq_true rfl, Nat.le_of_ble_eq_true rfl, Nat.le_of_ble_eq_true rfl, ?_⟩) | (refine ⟨Nat.le_of_ble_eq_true rfl, Nat.le_of_ble_eq_true rfl, Nat.le_of_ble_eq_true rfl, ?_⟩))
    refine ⟨_, _, ho', vp_in_nI (n := 0) (by decide) (by decide), ?_⟩
    repeat (first | (refine hP _ _ _ _ _ _ ?_; conv => whnf) | (refine ⟨fun q => absurd q (by decide), fun _ => ?_⟩) | (refine ⟨fun _ => ?_, fun q => absurd (by decide) q⟩) | (refine ac_get C.1 ?_; conv => whnf) | (refine ⟨_, C.1, Nat.le_of_ble_eq_true rfl, Nat.le_of_ble_eq_true rfl, Nat.le_of_ble_eq_true rfl, ?_⟩) | (refine ⟨Nat.le_of_ble_eq_true rfl, Nat.le_of_ble_eq_true rfl, Nat.le_of_ble_eq_true rfl, ?_⟩))
    exact ⟨rfl, hQ _ _ (c_zO CH vw Zo) (fun b hb nb => (ac_hsN nb).trans (F b hb)) ac_hsE (fun _ => vp_updE (k := 0)), by decide, by decide⟩
  · subst e
    (conv => whnf)
    refine ⟨by decide, ?_⟩
    (conv => whnf)
    intro a1
    repeat (first | (refine hP _ _ _ _ _ _ ?_; conv => whnf) | (refine ⟨fun q => absurd q (by decide), fun _ => ?_⟩) | (refine ⟨fun _ => ?_, fun q => absurd (by decide) q⟩) | (refine ac_get C.1 ?_; conv => whnf) | (refine ⟨_, C.1, Nat.le_of_ble_eq_true rfl, Nat.le_of_ble_eq_true rfl, Nat.le_of_ble_eq_true rfl, ?_⟩) | (refine ⟨Nat.le_of_ble_eq_true rfl, Nat.le_of_ble_eq_true rfl, Nat.le_of_ble_eq_true rfl, ?_⟩))
    exact ⟨rfl, hQ _ _ CH (fun b hb _ => F b hb) ho' (fun z => absurd z (by decide)), by decide, by decide⟩
  · subst e
    (conv => whnf)
    refine ⟨by decide, ?_⟩
    (conv => whnf)
    intro a1
    repeat (first | (refine hP _ _ _ _ _ _ ?_; conv => whnf) | (refine ⟨fun q => absurd q (by decide), fun _ => ?_⟩) | (refine ⟨fun _ => ?_, fun q => absurd (by decide) q⟩) | (refine ac_get C.1 ?_; conv => whnf) | (refine ⟨_, C.1, Nat.le_of_ble_eq_true rfl, Nat.le_of_ble_eq_true rfl, Nat.le_of_ble_eq_true rfl, ?_⟩) | (refine ⟨Nat.le_of_ble_eq_true rfl, Nat.le_of_ble_eq_true rfl, Nat.le_of_ble_eq_true rfl, ?_⟩))
    exact ⟨rfl, hQ _ _ CH (fun b hb _ => F b hb) ho' (fun z => absurd z (by decide)), by decide, by decide⟩
  · subst e
    (conv => whnf)
    refine ⟨by decide, ?_⟩
    (conv => whnf)
    intro a1
    repeat (first | (refine hP _ _ _ _ _ _ ?_; conv => whnf) | (refine ⟨fun q => absurd q (by decide), fun _ => ?_⟩) | (refine ⟨fun _ => ?_, fun q => absurd (by decide) q⟩) | (refine ac_get C.1 ?_; conv => whnf) | (refine ⟨_, C.1, Nat.le_of_ble_eq_true rfl, Nat.le_of_ble_eq_true rfl, Nat.le_of_ble_eq_true rfl, ?_⟩) | (refine ⟨Nat.le_of_ble_eq_true rfl, Nat.le_of_ble_eq_true rfl, Nat.le_of_ble_eq_true rfl, ?_⟩))
    exact ⟨rfl, hQ _ _ CH (fun b hb _ => F b hb) ho' (fun z => absurd z (by decide)), by decide, by decide⟩
  · subst e
    (conv => whnf)
    refine ⟨by decide, ?_⟩
    (conv => whnf)
    intro a1
    repeat (first | (refine hP _ _ _ _ _ _ ?_; conv => whnf) | (refine ⟨fun q => absurd q (by decide), fun _ => ?_⟩) | (refine ⟨fun _ => ?_, fun q => absurd (by decide) q⟩) | (refine ac_get C.1 ?_; conv => whnf) | (refine ⟨_, C.1, Nat.le_of_ble_eq_true rfl, Nat.le_of_ble_eq_true rfl, Nat.le_of_ble_eq_true rfl, ?_⟩) | (refine ⟨Nat.le_of_ble_eq_true rfl, Nat.le_of_ble_eq_true rfl, Nat.le_of_ble_eq_true rfl, ?_⟩))
    exact ⟨rfl, hQ _ _ CH (fun b hb _ => F b hb) ho' (fun z => absurd z (by decide)), by decide, by decide⟩
theorem L_link (C : c_ch h Z x ad ow hd hf S) (W : m_wf S) {r : Int32} {t : Int32} (hQ : m_app (fun x' _ S' => ∀ h', c_CH h' Z x S' → c_fz Z h h' → Q (.inl (some (.int (m_ct 1 x')))) h') (f_link S r t)) : T_L_link [.ref x, .int r, .int t] h Q := by
  have V := V_link (r := r) (t := t) W
  (intro P hP; conv => whnf)
  repeat (first | (refine hP _ _ _ _ _ _ ?_; conv => whnf) | (refine ⟨fun q => absurd q (by decide), fun _ => ?_⟩) | (refine ⟨fun _ => ?_, fun q => absurd (by decide) q⟩) | (refine ac_get C.1 ?_; conv => whnf) | (refine ⟨_, C.1, Nat.le_of_ble_eq_true rfl, Nat.le_of_ble_eq_true rfl, Nat.le_of_ble_eq_true rfl, ?_⟩) | (refine ⟨Nat.le_of_ble_eq_true rfl, Nat.le_of_ble_eq_true rfl, Nat.le_of_ble_eq_true rfl, ?_⟩))
  refine C_link C W ?_
  revert hQ V
  generalize f_link S r t = t
  obtain ⟨x', a, S'⟩ := t
  intro hQ V h' CH F
  dsimp only [m_app] at hQ V CH ⊢
  obtain ⟨vx, vw, vm⟩ := V
  rcases vx with e | e | e | e
  · subst e
    repeat (first | (refine hP _ _ _ _ _ _ ?_; conv => whnf) | (refine ⟨fun q => absurd q (by decide), fun _ => ?_⟩) | (refine ⟨fun _ => ?_, fun q => absurd (by decide) q⟩) | (refine ac_get C.1 ?_; conv => whnf) | (refine ⟨_, C.1, Nat.le_of_ble_eq_true rfl, Nat.le_of_ble_eq_true rfl, Nat.le_of_ble_eq_true rfl, ?_⟩) | (refine ⟨Nat.le_of_ble_eq_true rfl, Nat.le_of_ble_eq_true rfl, Nat.le_of_ble_eq_true rfl, ?_⟩))
    exact ⟨rfl, hQ _ CH F, by decide, by decide⟩
  · subst e
    (conv => whnf)
    refine ⟨by decide, ?_⟩
    (conv => whnf)
    intro a1
    repeat (first | (refine hP _ _ _ _ _ _ ?_; conv => whnf) | (refine ⟨fun q => absurd q (by decide), fun _ => ?_⟩) | (refine ⟨fun _ => ?_, fun q => absurd (by decide) q⟩) | (refine ac_get C.1 ?_; conv => whnf) | (refine ⟨_, C.1, Nat.le_of_ble_eq_true rfl, Nat.le_of_ble_eq_true rfl, Nat.le_of_ble_eq_true rfl, ?_⟩) | (refine ⟨Nat.le_of_ble_eq_true rfl, Nat.le_of_ble_eq_true rfl, Nat.le_of_ble_eq_true rfl, ?_⟩))
    exact ⟨rfl, hQ _ CH F, by decide, by decide⟩
  · subst e
    (conv => whnf)
    refine ⟨by decide, ?_⟩
    (conv => whnf)
    intro a1
    repeat (first | (refine hP _ _ _ _ _ _ ?_; conv => whnf) | (refine ⟨fun q => absurd q (by decide), fun _ => ?_⟩) | (refine ⟨fun _ => ?_, fun q => absurd (by decide) q⟩) | (refine ac_get C.1 ?_; conv => whnf) | (refine ⟨_, C.1, Nat.le_of_ble_eq_true rfl, Nat.le_of_ble_eq_true rfl, Nat.le_of_ble_eq_true rfl, ?_⟩) | (refine ⟨Nat.le_of_ble_eq_true rfl, Nat.le_of_ble_eq_true rfl, Nat.le_of_ble_eq_true rfl, ?_⟩))
    exact ⟨rfl, hQ _ CH F, by decide, by decide⟩
  · subst e
    (conv => whnf)
    refine ⟨by decide, ?_⟩
    (conv => whnf)
    intro a1
    repeat (first | (refine hP _ _ _ _ _ _ ?_; conv => whnf) | (refine ⟨fun q => absurd q (by decide), fun _ => ?_⟩) | (refine ⟨fun _ => ?_, fun q => absurd (by decide) q⟩) | (refine ac_get C.1 ?_; conv => whnf) | (refine ⟨_, C.1, Nat.le_of_ble_eq_true rfl, Nat.le_of_ble_eq_true rfl, Nat.le_of_ble_eq_true rfl, ?_⟩) | (refine ⟨Nat.le_of_ble_eq_true rfl, Nat.le_of_ble_eq_true rfl, Nat.le_of_ble_eq_true rfl, ?_⟩))
    exact ⟨rfl, hQ _ CH F, by decide, by decide⟩
theorem L_follow {out : Nat} {o0 : Nat → Int64} (C : c_ch h Z x ad ow hd hf S) (W : m_wf S) (Zo : Z out) (ho : h out = some (.inr (2, 1, .inr (.inl o0)))) {t : Int32} {r : Int32} (hQ : m_app (fun x' a S' => ∀ h' o, c_CH h' Z x S' → (∀ b, Z b → b ≠ out → h' b = h b) → h' out = some (.inr (2, 1, .inr (.inl o))) → (x' = 7 → o 0 = m_b2 a) → Q (.inl (some (.int (m_ct 1 x')))) h') (f_follow S t r)) : T_L_follow [.ref x, .int t, .int r, .ref out] h Q := by
  have V := V_follow (t := t) (r := r) W
  (intro P hP; conv => whnf)
  repeat (first | (refine hP _ _ _ _ _ _ ?_; conv => whnf) | (refine ⟨fun q => absurd q (by decide), fun _ => ?_⟩) | (refine ⟨fun _ => ?_, fun q => absurd (by decide) q⟩) | (refine ac_get C.1 ?_; conv => whnf) | (refine ⟨_, C.1, Nat.le_of_ble_eq_true rfl, Nat.le_of_ble_eq_true rfl, Nat.le_of_ble_eq_true rfl, ?_⟩) | (refine ⟨Nat.le_of_ble_eq_true rfl, Nat.le_of_ble_eq_true rfl, Nat.le_of_ble_eq_true rfl, ?_⟩))
  refine C_follow C W ?_
  revert hQ V
  generalize f_follow S t r = t
  obtain ⟨x', a, S'⟩ := t
  intro hQ V h' CH F
  dsimp only [m_app] at hQ V CH ⊢
  obtain ⟨vx, vw, vm, va⟩ := V
  have ho' := (F out Zo).trans ho
  rcases vx with e | e | e | e
  · subst e
    rcases va with e | e
    · replace e : a = 0 := e
      subst e
      repeat (first | (refine hP _ _ _ _ _ _ ?_; conv => whnf) | (refine ⟨fun q => absurd q (by decide), fun _ => ?_⟩) | (refine ⟨fun _ => ?_, fun q => absurd (by decide) q⟩) | (refine ac_get C.1 ?_; conv => whnf) | (refine ⟨_, C.1, Nat.le_of_ble_eq_true rfl, Nat.le_of_ble_eq_true rfl, Nat.le_of_ble_eq_true rfl, ?_⟩) | (refine ⟨Nat.le_of_ble_eq_true rfl, Nat.le_of_ble_eq_true rfl, Nat.le_of_ble_eq_true rfl, ?_⟩))
      refine ⟨_, _, ho', vp_in_nI (n := 0) (by decide) (by decide), ?_⟩
      repeat (first | (refine hP _ _ _ _ _ _ ?_; conv => whnf) | (refine ⟨fun q => absurd q (by decide), fun _ => ?_⟩) | (refine ⟨fun _ => ?_, fun q => absurd (by decide) q⟩) | (refine ac_get C.1 ?_; conv => whnf) | (refine ⟨_, C.1, Nat.le_of_ble_eq_true rfl, Nat.le_of_ble_eq_true rfl, Nat.le_of_ble_eq_true rfl, ?_⟩) | (refine ⟨Nat.le_of_ble_eq_true rfl, Nat.le_of_ble_eq_true rfl, Nat.le_of_ble_eq_true rfl, ?_⟩))
      exact ⟨rfl, hQ _ _ (c_zO CH vw Zo) (fun b hb nb => (ac_hsN nb).trans (F b hb)) ac_hsE (fun _ => vp_updE (k := 0)), by decide, by decide⟩
    · replace e : a = 1 := e
      subst e
      repeat (first | (refine hP _ _ _ _ _ _ ?_; conv => whnf) | (refine ⟨fun q => absurd q (by decide), fun _ => ?_⟩) | (refine ⟨fun _ => ?_, fun q => absurd (by decide) q⟩) | (refine ac_get C.1 ?_; conv => whnf) | (refine ⟨_, C.1, Nat.le_of_ble_eq_true rfl, Nat.le_of_ble_eq_true rfl, Nat.le_of_ble_eq_true rfl, ?_⟩) | (refine ⟨Nat.le_of_ble_eq_true rfl, Nat.le_of_ble_eq_true rfl, Nat.le_of_ble_eq_true rfl, ?_⟩))
      refine ⟨_, _, ho', vp_in_nI (n := 0) (by decide) (by decide), ?_⟩
      repeat (first | (refine hP _ _ _ _ _ _ ?_; conv => whnf) | (refine ⟨fun q => absurd q (by decide), fun _ => ?_⟩) | (refine ⟨fun _ => ?_, fun q => absurd (by decide) q⟩) | (refine ac_get C.1 ?_; conv => whnf) | (refine ⟨_, C.1, Nat.le_of_ble_eq_true rfl, Nat.le_of_ble_eq_true rfl, Nat.le_of_ble_eq_true rfl, ?_⟩) | (refine ⟨Nat.le_of_ble_eq_true rfl, Nat.le_of_ble_eq_true rfl, Nat.le_of_ble_eq_true rfl, ?_⟩))
      exact ⟨rfl, hQ _ _ (c_zO CH vw Zo) (fun b hb nb => (ac_hsN nb).trans (F b hb)) ac_hsE (fun _ => vp_updE (k := 0)), by decide, by decide⟩
  · subst e
    (conv => whnf)
    refine ⟨by decide, ?_⟩
    (conv => whnf)
    intro a1
    repeat (first | (refine hP _ _ _ _ _ _ ?_; conv => whnf) | (refine ⟨fun q => absurd q (by decide), fun _ => ?_⟩) | (refine ⟨fun _ => ?_, fun q => absurd (by decide) q⟩) | (refine ac_get C.1 ?_; conv => whnf) | (refine ⟨_, C.1, Nat.le_of_ble_eq_true rfl, Nat.le_of_ble_eq_true rfl, Nat.le_of_ble_eq_true rfl, ?_⟩) | (refine ⟨Nat.le_of_ble_eq_true rfl, Nat.le_of_ble_eq_true rfl, Nat.le_of_ble_eq_true rfl, ?_⟩))
    exact ⟨rfl, hQ _ _ CH (fun b hb _ => F b hb) ho' (fun z => absurd z (by decide)), by decide, by decide⟩
  · subst e
    (conv => whnf)
    refine ⟨by decide, ?_⟩
    (conv => whnf)
    intro a1
    repeat (first | (refine hP _ _ _ _ _ _ ?_; conv => whnf) | (refine ⟨fun q => absurd q (by decide), fun _ => ?_⟩) | (refine ⟨fun _ => ?_, fun q => absurd (by decide) q⟩) | (refine ac_get C.1 ?_; conv => whnf) | (refine ⟨_, C.1, Nat.le_of_ble_eq_true rfl, Nat.le_of_ble_eq_true rfl, Nat.le_of_ble_eq_true rfl, ?_⟩) | (refine ⟨Nat.le_of_ble_eq_true rfl, Nat.le_of_ble_eq_true rfl, Nat.le_of_ble_eq_true rfl, ?_⟩))
    exact ⟨rfl, hQ _ _ CH (fun b hb _ => F b hb) ho' (fun z => absurd z (by decide)), by decide, by decide⟩
  · subst e
    (conv => whnf)
    refine ⟨by decide, ?_⟩
    (conv => whnf)
    intro a1
    repeat (first | (refine hP _ _ _ _ _ _ ?_; conv => whnf) | (refine ⟨fun q => absurd q (by decide), fun _ => ?_⟩) | (refine ⟨fun _ => ?_, fun q => absurd (by decide) q⟩) | (refine ac_get C.1 ?_; conv => whnf) | (refine ⟨_, C.1, Nat.le_of_ble_eq_true rfl, Nat.le_of_ble_eq_true rfl, Nat.le_of_ble_eq_true rfl, ?_⟩) | (refine ⟨Nat.le_of_ble_eq_true rfl, Nat.le_of_ble_eq_true rfl, Nat.le_of_ble_eq_true rfl, ?_⟩))
    exact ⟨rfl, hQ _ _ CH (fun b hb _ => F b hb) ho' (fun z => absurd z (by decide)), by decide, by decide⟩
theorem L_exchange {out : Nat} {o0 : Nat → Int64} (C : c_ch h Z x ad ow hd hf S) (W : m_wf S) (Zo : Z out) (ho : h out = some (.inr (2, 1, .inr (.inl o0)))) {r : Int32} {v : Int64} (hQ : m_app (fun x' a S' => ∀ h' o, c_CH h' Z x S' → (∀ b, Z b → b ≠ out → h' b = h b) → h' out = some (.inr (2, 1, .inr (.inl o))) → (x' = 7 → o 0 = a) → Q (.inl (some (.int (m_ct 1 x')))) h') (f_exchange S r v)) : T_L_exchange [.ref x, .int r, .long v, .ref out] h Q := by
  have V := V_exchange (r := r) (v := v) W
  (intro P hP; conv => whnf)
  repeat (first | (refine hP _ _ _ _ _ _ ?_; conv => whnf) | (refine ⟨fun q => absurd q (by decide), fun _ => ?_⟩) | (refine ⟨fun _ => ?_, fun q => absurd (by decide) q⟩) | (refine ac_get C.1 ?_; conv => whnf) | (refine ⟨_, C.1, Nat.le_of_ble_eq_true rfl, Nat.le_of_ble_eq_true rfl, Nat.le_of_ble_eq_true rfl, ?_⟩) | (refine ⟨Nat.le_of_ble_eq_true rfl, Nat.le_of_ble_eq_true rfl, Nat.le_of_ble_eq_true rfl, ?_⟩))
  refine C_exchange C W ?_
  revert hQ V
  generalize f_exchange S r v = t
  obtain ⟨x', a, S'⟩ := t
  intro hQ V h' CH F
  dsimp only [m_app] at hQ V CH ⊢
  obtain ⟨vx, vw, vm⟩ := V
  have ho' := (F out Zo).trans ho
  rcases vx with e | e | e | e
  · subst e
    repeat (first | (refine hP _ _ _ _ _ _ ?_; conv => whnf) | (refine ⟨fun q => absurd q (by decide), fun _ => ?_⟩) | (refine ⟨fun _ => ?_, fun q => absurd (by decide) q⟩) | (refine ac_get C.1 ?_; conv => whnf) | (refine ⟨_, C.1, Nat.le_of_ble_eq_true rfl, Nat.le_of_ble_eq_true rfl, Nat.le_of_ble_eq_true rfl, ?_⟩) | (refine ⟨Nat.le_of_ble_eq_true rfl, Nat.le_of_ble_eq_true rfl, Nat.le_of_ble_eq_true rfl, ?_⟩))
    refine ⟨_, _, ho', vp_in_nI (n := 0) (by decide) (by decide), ?_⟩
    repeat (first | (refine hP _ _ _ _ _ _ ?_; conv => whnf) | (refine ⟨fun q => absurd q (by decide), fun _ => ?_⟩) | (refine ⟨fun _ => ?_, fun q => absurd (by decide) q⟩) | (refine ac_get C.1 ?_; conv => whnf) | (refine ⟨_, C.1, Nat.le_of_ble_eq_true rfl, Nat.le_of_ble_eq_true rfl, Nat.le_of_ble_eq_true rfl, ?_⟩) | (refine ⟨Nat.le_of_ble_eq_true rfl, Nat.le_of_ble_eq_true rfl, Nat.le_of_ble_eq_true rfl, ?_⟩))
    exact ⟨rfl, hQ _ _ (c_zO CH vw Zo) (fun b hb nb => (ac_hsN nb).trans (F b hb)) ac_hsE (fun _ => vp_updE (k := 0)), by decide, by decide⟩
  · subst e
    (conv => whnf)
    refine ⟨by decide, ?_⟩
    (conv => whnf)
    intro a1
    repeat (first | (refine hP _ _ _ _ _ _ ?_; conv => whnf) | (refine ⟨fun q => absurd q (by decide), fun _ => ?_⟩) | (refine ⟨fun _ => ?_, fun q => absurd (by decide) q⟩) | (refine ac_get C.1 ?_; conv => whnf) | (refine ⟨_, C.1, Nat.le_of_ble_eq_true rfl, Nat.le_of_ble_eq_true rfl, Nat.le_of_ble_eq_true rfl, ?_⟩) | (refine ⟨Nat.le_of_ble_eq_true rfl, Nat.le_of_ble_eq_true rfl, Nat.le_of_ble_eq_true rfl, ?_⟩))
    exact ⟨rfl, hQ _ _ CH (fun b hb _ => F b hb) ho' (fun z => absurd z (by decide)), by decide, by decide⟩
  · subst e
    (conv => whnf)
    refine ⟨by decide, ?_⟩
    (conv => whnf)
    intro a1
    repeat (first | (refine hP _ _ _ _ _ _ ?_; conv => whnf) | (refine ⟨fun q => absurd q (by decide), fun _ => ?_⟩) | (refine ⟨fun _ => ?_, fun q => absurd (by decide) q⟩) | (refine ac_get C.1 ?_; conv => whnf) | (refine ⟨_, C.1, Nat.le_of_ble_eq_true rfl, Nat.le_of_ble_eq_true rfl, Nat.le_of_ble_eq_true rfl, ?_⟩) | (refine ⟨Nat.le_of_ble_eq_true rfl, Nat.le_of_ble_eq_true rfl, Nat.le_of_ble_eq_true rfl, ?_⟩))
    exact ⟨rfl, hQ _ _ CH (fun b hb _ => F b hb) ho' (fun z => absurd z (by decide)), by decide, by decide⟩
  · subst e
    (conv => whnf)
    refine ⟨by decide, ?_⟩
    (conv => whnf)
    intro a1
    repeat (first | (refine hP _ _ _ _ _ _ ?_; conv => whnf) | (refine ⟨fun q => absurd q (by decide), fun _ => ?_⟩) | (refine ⟨fun _ => ?_, fun q => absurd (by decide) q⟩) | (refine ac_get C.1 ?_; conv => whnf) | (refine ⟨_, C.1, Nat.le_of_ble_eq_true rfl, Nat.le_of_ble_eq_true rfl, Nat.le_of_ble_eq_true rfl, ?_⟩) | (refine ⟨Nat.le_of_ble_eq_true rfl, Nat.le_of_ble_eq_true rfl, Nat.le_of_ble_eq_true rfl, ?_⟩))
    exact ⟨rfl, hQ _ _ CH (fun b hb _ => F b hb) ho' (fun z => absurd z (by decide)), by decide, by decide⟩
theorem L_total {out : Nat} {o0 : Nat → Int64} (C : c_ch h Z x ad ow hd hf S) (W : m_wf S) (Zo : Z out) (ho : h out = some (.inr (2, 1, .inr (.inl o0)))) {r : Int32} (hQ : m_app (fun x' a S' => ∀ h' o, c_CH h' Z x S' → (∀ b, Z b → b ≠ out → h' b = h b) → h' out = some (.inr (2, 1, .inr (.inl o))) → (x' = 7 → o 0 = a) → Q (.inl (some (.int (m_ct 1 x')))) h') (f_total S r)) : T_L_total [.ref x, .int r, .ref out] h Q := by
  have V := V_total (r := r) W
  (intro P hP; conv => whnf)
  repeat (first | (refine hP _ _ _ _ _ _ ?_; conv => whnf) | (refine ⟨fun q => absurd q (by decide), fun _ => ?_⟩) | (refine ⟨fun _ => ?_, fun q => absurd (by decide) q⟩) | (refine ac_get C.1 ?_; conv => whnf) | (refine ⟨_, C.1, Nat.le_of_ble_eq_true rfl, Nat.le_of_ble_eq_true rfl, Nat.le_of_ble_eq_true rfl, ?_⟩) | (refine ⟨Nat.le_of_ble_eq_true rfl, Nat.le_of_ble_eq_true rfl, Nat.le_of_ble_eq_true rfl, ?_⟩))
  refine C_total C W ?_
  revert hQ V
  generalize f_total S r = t
  obtain ⟨x', a, S'⟩ := t
  intro hQ V h' CH F
  dsimp only [m_app] at hQ V CH ⊢
  obtain ⟨vx, vw, vm⟩ := V
  have ho' := (F out Zo).trans ho
  rcases vx with e | e | e | e
  · subst e
    repeat (first | (refine hP _ _ _ _ _ _ ?_; conv => whnf) | (refine ⟨fun q => absurd q (by decide), fun _ => ?_⟩) | (refine ⟨fun _ => ?_, fun q => absurd (by decide) q⟩) | (refine ac_get C.1 ?_; conv => whnf) | (refine ⟨_, C.1, Nat.le_of_ble_eq_true rfl, Nat.le_of_ble_eq_true rfl, Nat.le_of_ble_eq_true rfl, ?_⟩) | (refine ⟨Nat.le_of_ble_eq_true rfl, Nat.le_of_ble_eq_true rfl, Nat.le_of_ble_eq_true rfl, ?_⟩))
    refine ⟨_, _, ho', vp_in_nI (n := 0) (by decide) (by decide), ?_⟩
    repeat (first | (refine hP _ _ _ _ _ _ ?_; conv => whnf) | (refine ⟨fun q => absurd q (by decide), fun _ => ?_⟩) | (refine ⟨fun _ => ?_, fun q => absurd (by decide) q⟩) | (refine ac_get C.1 ?_; conv => whnf) | (refine ⟨_, C.1, Nat.le_of_ble_eq_true rfl, Nat.le_of_ble_eq_true rfl, Nat.le_of_ble_eq_true rfl, ?_⟩) | (refine ⟨Nat.le_of_ble_eq_true rfl, Nat.le_of_ble_eq_true rfl, Nat.le_of_ble_eq_true rfl, ?_⟩))
    exact ⟨rfl, hQ _ _ (c_zO CH vw Zo) (fun b hb nb => (ac_hsN nb).trans (F b hb)) ac_hsE (fun _ => vp_updE (k := 0)), by decide, by decide⟩
  · subst e
    (conv => whnf)
    refine ⟨by decide, ?_⟩
    (conv => whnf)
    intro a1
    repeat (first | (refine hP _ _ _ _ _ _ ?_; conv => whnf) | (refine ⟨fun q => absurd q (by decide), fun _ => ?_⟩) | (refine ⟨fun _ => ?_, fun q => absurd (by decide) q⟩) | (refine ac_get C.1 ?_; conv => whnf) | (refine ⟨_, C.1, Nat.le_of_ble_eq_true rfl, Nat.le_of_ble_eq_true rfl, Nat.le_of_ble_eq_true rfl, ?_⟩) | (refine ⟨Nat.le_of_ble_eq_true rfl, Nat.le_of_ble_eq_true rfl, Nat.le_of_ble_eq_true rfl, ?_⟩))
    exact ⟨rfl, hQ _ _ CH (fun b hb _ => F b hb) ho' (fun z => absurd z (by decide)), by decide, by decide⟩
  · subst e
    (conv => whnf)
    refine ⟨by decide, ?_⟩
    (conv => whnf)
    intro a1
    repeat (first | (refine hP _ _ _ _ _ _ ?_; conv => whnf) | (refine ⟨fun q => absurd q (by decide), fun _ => ?_⟩) | (refine ⟨fun _ => ?_, fun q => absurd (by decide) q⟩) | (refine ac_get C.1 ?_; conv => whnf) | (refine ⟨_, C.1, Nat.le_of_ble_eq_true rfl, Nat.le_of_ble_eq_true rfl, Nat.le_of_ble_eq_true rfl, ?_⟩) | (refine ⟨Nat.le_of_ble_eq_true rfl, Nat.le_of_ble_eq_true rfl, Nat.le_of_ble_eq_true rfl, ?_⟩))
    exact ⟨rfl, hQ _ _ CH (fun b hb _ => F b hb) ho' (fun z => absurd z (by decide)), by decide, by decide⟩
  · subst e
    (conv => whnf)
    refine ⟨by decide, ?_⟩
    (conv => whnf)
    intro a1
    repeat (first | (refine hP _ _ _ _ _ _ ?_; conv => whnf) | (refine ⟨fun q => absurd q (by decide), fun _ => ?_⟩) | (refine ⟨fun _ => ?_, fun q => absurd (by decide) q⟩) | (refine ac_get C.1 ?_; conv => whnf) | (refine ⟨_, C.1, Nat.le_of_ble_eq_true rfl, Nat.le_of_ble_eq_true rfl, Nat.le_of_ble_eq_true rfl, ?_⟩) | (refine ⟨Nat.le_of_ble_eq_true rfl, Nat.le_of_ble_eq_true rfl, Nat.le_of_ble_eq_true rfl, ?_⟩))
    exact ⟨rfl, hQ _ _ CH (fun b hb _ => F b hb) ho' (fun z => absurd z (by decide)), by decide, by decide⟩
theorem L_combine {out : Nat} {o0 : Nat → Int64} (C : c_ch h Z x ad ow hd hf S) (W : m_wf S) (Zo : Z out) (ho : h out = some (.inr (2, 1, .inr (.inl o0)))) {op : Int32} {r : Int32} {ix : Int32} {o : Int32} {at' : Int32} (hQ : m_app (fun x' a S' => ∀ h' o, c_CH h' Z x S' → (∀ b, Z b → b ≠ out → h' b = h b) → h' out = some (.inr (2, 1, .inr (.inl o))) → (x' = 7 → o 0 = a) → Q (.inl (some (.int (m_ct 0 x')))) h') (f_combine S op r ix o at')) : T_L_combine [.ref x, .int op, .int r, .int ix, .int o, .int at', .ref out] h Q := by
  have V := V_combine (op := op) (r := r) (ix := ix) (o := o) (at' := at') W
  (intro P hP; conv => whnf)
  repeat (first | (refine hP _ _ _ _ _ _ ?_; conv => whnf) | (refine ⟨fun q => absurd q (by decide), fun _ => ?_⟩) | (refine ⟨fun _ => ?_, fun q => absurd (by decide) q⟩) | (refine ac_get C.1 ?_; conv => whnf) | (refine ⟨_, C.1, Nat.le_of_ble_eq_true rfl, Nat.le_of_ble_eq_true rfl, Nat.le_of_ble_eq_true rfl, ?_⟩) | (refine ⟨Nat.le_of_ble_eq_true rfl, Nat.le_of_ble_eq_true rfl, Nat.le_of_ble_eq_true rfl, ?_⟩))
  refine C_combine C W ?_
  revert hQ V
  generalize f_combine S op r ix o at' = t
  obtain ⟨x', a, S'⟩ := t
  intro hQ V h' CH F
  dsimp only [m_app] at hQ V CH ⊢
  obtain ⟨vx, vw, vm⟩ := V
  have ho' := (F out Zo).trans ho
  rcases vx with e | e | e | e | e | e
  · subst e
    repeat (first | (refine hP _ _ _ _ _ _ ?_; conv => whnf) | (refine ⟨fun q => absurd q (by decide), fun _ => ?_⟩) | (refine ⟨fun _ => ?_, fun q => absurd (by decide) q⟩) | (refine ac_get C.1 ?_; conv => whnf) | (refine ⟨_, C.1, Nat.le_of_ble_eq_true rfl, Nat.le_of_ble_eq_true rfl, Nat.le_of_ble_eq_true rfl, ?_⟩) | (refine ⟨Nat.le_of_ble_eq_true rfl, Nat.le_of_ble_eq_true rfl, Nat.le_of_ble_eq_true rfl, ?_⟩))
    refine ⟨_, _, ho', vp_in_nI (n := 0) (by decide) (by decide), ?_⟩
    repeat (first | (refine hP _ _ _ _ _ _ ?_; conv => whnf) | (refine ⟨fun q => absurd q (by decide), fun _ => ?_⟩) | (refine ⟨fun _ => ?_, fun q => absurd (by decide) q⟩) | (refine ac_get C.1 ?_; conv => whnf) | (refine ⟨_, C.1, Nat.le_of_ble_eq_true rfl, Nat.le_of_ble_eq_true rfl, Nat.le_of_ble_eq_true rfl, ?_⟩) | (refine ⟨Nat.le_of_ble_eq_true rfl, Nat.le_of_ble_eq_true rfl, Nat.le_of_ble_eq_true rfl, ?_⟩))
    exact ⟨rfl, hQ _ _ (c_zO CH vw Zo) (fun b hb nb => (ac_hsN nb).trans (F b hb)) ac_hsE (fun _ => vp_updE (k := 0)), by decide, by decide⟩
  · subst e
    (conv => whnf)
    refine ⟨by decide, ?_⟩
    (conv => whnf)
    intro a1
    repeat (first | (refine hP _ _ _ _ _ _ ?_; conv => whnf) | (refine ⟨fun q => absurd q (by decide), fun _ => ?_⟩) | (refine ⟨fun _ => ?_, fun q => absurd (by decide) q⟩) | (refine ac_get C.1 ?_; conv => whnf) | (refine ⟨_, C.1, Nat.le_of_ble_eq_true rfl, Nat.le_of_ble_eq_true rfl, Nat.le_of_ble_eq_true rfl, ?_⟩) | (refine ⟨Nat.le_of_ble_eq_true rfl, Nat.le_of_ble_eq_true rfl, Nat.le_of_ble_eq_true rfl, ?_⟩))
    exact ⟨rfl, hQ _ _ CH (fun b hb _ => F b hb) ho' (fun z => absurd z (by decide)), by decide, by decide⟩
  · subst e
    (conv => whnf)
    refine ⟨by decide, ?_⟩
    (conv => whnf)
    intro a1
    repeat (first | (refine hP _ _ _ _ _ _ ?_; conv => whnf) | (refine ⟨fun q => absurd q (by decide), fun _ => ?_⟩) | (refine ⟨fun _ => ?_, fun q => absurd (by decide) q⟩) | (refine ac_get C.1 ?_; conv => whnf) | (refine ⟨_, C.1, Nat.le_of_ble_eq_true rfl, Nat.le_of_ble_eq_true rfl, Nat.le_of_ble_eq_true rfl, ?_⟩) | (refine ⟨Nat.le_of_ble_eq_true rfl, Nat.le_of_ble_eq_true rfl, Nat.le_of_ble_eq_true rfl, ?_⟩))
    exact ⟨rfl, hQ _ _ CH (fun b hb _ => F b hb) ho' (fun z => absurd z (by decide)), by decide, by decide⟩
  · subst e
    (conv => whnf)
    refine ⟨by decide, ?_⟩
    (conv => whnf)
    intro a1
    repeat (first | (refine hP _ _ _ _ _ _ ?_; conv => whnf) | (refine ⟨fun q => absurd q (by decide), fun _ => ?_⟩) | (refine ⟨fun _ => ?_, fun q => absurd (by decide) q⟩) | (refine ac_get C.1 ?_; conv => whnf) | (refine ⟨_, C.1, Nat.le_of_ble_eq_true rfl, Nat.le_of_ble_eq_true rfl, Nat.le_of_ble_eq_true rfl, ?_⟩) | (refine ⟨Nat.le_of_ble_eq_true rfl, Nat.le_of_ble_eq_true rfl, Nat.le_of_ble_eq_true rfl, ?_⟩))
    exact ⟨rfl, hQ _ _ CH (fun b hb _ => F b hb) ho' (fun z => absurd z (by decide)), by decide, by decide⟩
  · subst e
    (conv => whnf)
    refine ⟨by decide, ?_⟩
    (conv => whnf)
    intro a1
    repeat (first | (refine hP _ _ _ _ _ _ ?_; conv => whnf) | (refine ⟨fun q => absurd q (by decide), fun _ => ?_⟩) | (refine ⟨fun _ => ?_, fun q => absurd (by decide) q⟩) | (refine ac_get C.1 ?_; conv => whnf) | (refine ⟨_, C.1, Nat.le_of_ble_eq_true rfl, Nat.le_of_ble_eq_true rfl, Nat.le_of_ble_eq_true rfl, ?_⟩) | (refine ⟨Nat.le_of_ble_eq_true rfl, Nat.le_of_ble_eq_true rfl, Nat.le_of_ble_eq_true rfl, ?_⟩))
    exact ⟨rfl, hQ _ _ CH (fun b hb _ => F b hb) ho' (fun z => absurd z (by decide)), by decide, by decide⟩
  · subst e
    (conv => whnf)
    refine ⟨by decide, ?_⟩
    (conv => whnf)
    intro a1
    repeat (first | (refine hP _ _ _ _ _ _ ?_; conv => whnf) | (refine ⟨fun q => absurd q (by decide), fun _ => ?_⟩) | (refine ⟨fun _ => ?_, fun q => absurd (by decide) q⟩) | (refine ac_get C.1 ?_; conv => whnf) | (refine ⟨_, C.1, Nat.le_of_ble_eq_true rfl, Nat.le_of_ble_eq_true rfl, Nat.le_of_ble_eq_true rfl, ?_⟩) | (refine ⟨Nat.le_of_ble_eq_true rfl, Nat.le_of_ble_eq_true rfl, Nat.le_of_ble_eq_true rfl, ?_⟩))
    exact ⟨rfl, hQ _ _ CH (fun b hb _ => F b hb) ho' (fun z => absurd z (by decide)), by decide, by decide⟩
theorem L_move {out : Nat} {o0 : Nat → Int64} (C : c_ch h Z x ad ow hd hf S) (W : m_wf S) (Zo : Z out) (ho : h out = some (.inr (2, 1, .inr (.inl o0)))) {r : Int32} {ix : Int32} {o : Int32} {at' : Int32} {n : Int32} (hQ : m_app (fun x' a S' => ∀ h' o, c_CH h' Z x S' → (∀ b, Z b → b ≠ out → h' b = h b) → h' out = some (.inr (2, 1, .inr (.inl o))) → (x' = 7 → o 0 = a.toInt64) → Q (.inl (some (.int (m_ct 0 x')))) h') (f_move S r ix o at' n)) : T_L_move [.ref x, .int r, .int ix, .int o, .int at', .int n, .ref out] h Q := by
  have V := V_move (r := r) (ix := ix) (o := o) (at' := at') (n := n) W
  (intro P hP; conv => whnf)
  repeat (first | (refine hP _ _ _ _ _ _ ?_; conv => whnf) | (refine ⟨fun q => absurd q (by decide), fun _ => ?_⟩) | (refine ⟨fun _ => ?_, fun q => absurd (by decide) q⟩) | (refine ac_get C.1 ?_; conv => whnf) | (refine ⟨_, C.1, Nat.le_of_ble_eq_true rfl, Nat.le_of_ble_eq_true rfl, Nat.le_of_ble_eq_true rfl, ?_⟩) | (refine ⟨Nat.le_of_ble_eq_true rfl, Nat.le_of_ble_eq_true rfl, Nat.le_of_ble_eq_true rfl, ?_⟩))
  refine C_move C W ?_
  revert hQ V
  generalize f_move S r ix o at' n = t
  obtain ⟨x', a, S'⟩ := t
  intro hQ V h' CH F
  dsimp only [m_app] at hQ V CH ⊢
  obtain ⟨vx, vw, vm⟩ := V
  have ho' := (F out Zo).trans ho
  rcases vx with e | e | e | e | e
  · subst e
    repeat (first | (refine hP _ _ _ _ _ _ ?_; conv => whnf) | (refine ⟨fun q => absurd q (by decide), fun _ => ?_⟩) | (refine ⟨fun _ => ?_, fun q => absurd (by decide) q⟩) | (refine ac_get C.1 ?_; conv => whnf) | (refine ⟨_, C.1, Nat.le_of_ble_eq_true rfl, Nat.le_of_ble_eq_true rfl, Nat.le_of_ble_eq_true rfl, ?_⟩) | (refine ⟨Nat.le_of_ble_eq_true rfl, Nat.le_of_ble_eq_true rfl, Nat.le_of_ble_eq_true rfl, ?_⟩))
    refine ⟨_, _, ho', vp_in_nI (n := 0) (by decide) (by decide), ?_⟩
    repeat (first | (refine hP _ _ _ _ _ _ ?_; conv => whnf) | (refine ⟨fun q => absurd q (by decide), fun _ => ?_⟩) | (refine ⟨fun _ => ?_, fun q => absurd (by decide) q⟩) | (refine ac_get C.1 ?_; conv => whnf) | (refine ⟨_, C.1, Nat.le_of_ble_eq_true rfl, Nat.le_of_ble_eq_true rfl, Nat.le_of_ble_eq_true rfl, ?_⟩) | (refine ⟨Nat.le_of_ble_eq_true rfl, Nat.le_of_ble_eq_true rfl, Nat.le_of_ble_eq_true rfl, ?_⟩))
    exact ⟨rfl, hQ _ _ (c_zO CH vw Zo) (fun b hb nb => (ac_hsN nb).trans (F b hb)) ac_hsE (fun _ => vp_updE (k := 0)), by decide, by decide⟩
  · subst e
    (conv => whnf)
    refine ⟨by decide, ?_⟩
    (conv => whnf)
    intro a1
    repeat (first | (refine hP _ _ _ _ _ _ ?_; conv => whnf) | (refine ⟨fun q => absurd q (by decide), fun _ => ?_⟩) | (refine ⟨fun _ => ?_, fun q => absurd (by decide) q⟩) | (refine ac_get C.1 ?_; conv => whnf) | (refine ⟨_, C.1, Nat.le_of_ble_eq_true rfl, Nat.le_of_ble_eq_true rfl, Nat.le_of_ble_eq_true rfl, ?_⟩) | (refine ⟨Nat.le_of_ble_eq_true rfl, Nat.le_of_ble_eq_true rfl, Nat.le_of_ble_eq_true rfl, ?_⟩))
    exact ⟨rfl, hQ _ _ CH (fun b hb _ => F b hb) ho' (fun z => absurd z (by decide)), by decide, by decide⟩
  · subst e
    (conv => whnf)
    refine ⟨by decide, ?_⟩
    (conv => whnf)
    intro a1
    repeat (first | (refine hP _ _ _ _ _ _ ?_; conv => whnf) | (refine ⟨fun q => absurd q (by decide), fun _ => ?_⟩) | (refine ⟨fun _ => ?_, fun q => absurd (by decide) q⟩) | (refine ac_get C.1 ?_; conv => whnf) | (refine ⟨_, C.1, Nat.le_of_ble_eq_true rfl, Nat.le_of_ble_eq_true rfl, Nat.le_of_ble_eq_true rfl, ?_⟩) | (refine ⟨Nat.le_of_ble_eq_true rfl, Nat.le_of_ble_eq_true rfl, Nat.le_of_ble_eq_true rfl, ?_⟩))
    exact ⟨rfl, hQ _ _ CH (fun b hb _ => F b hb) ho' (fun z => absurd z (by decide)), by decide, by decide⟩
  · subst e
    (conv => whnf)
    refine ⟨by decide, ?_⟩
    (conv => whnf)
    intro a1
    repeat (first | (refine hP _ _ _ _ _ _ ?_; conv => whnf) | (refine ⟨fun q => absurd q (by decide), fun _ => ?_⟩) | (refine ⟨fun _ => ?_, fun q => absurd (by decide) q⟩) | (refine ac_get C.1 ?_; conv => whnf) | (refine ⟨_, C.1, Nat.le_of_ble_eq_true rfl, Nat.le_of_ble_eq_true rfl, Nat.le_of_ble_eq_true rfl, ?_⟩) | (refine ⟨Nat.le_of_ble_eq_true rfl, Nat.le_of_ble_eq_true rfl, Nat.le_of_ble_eq_true rfl, ?_⟩))
    exact ⟨rfl, hQ _ _ CH (fun b hb _ => F b hb) ho' (fun z => absurd z (by decide)), by decide, by decide⟩
  · subst e
    (conv => whnf)
    refine ⟨by decide, ?_⟩
    (conv => whnf)
    intro a1
    repeat (first | (refine hP _ _ _ _ _ _ ?_; conv => whnf) | (refine ⟨fun q => absurd q (by decide), fun _ => ?_⟩) | (refine ⟨fun _ => ?_, fun q => absurd (by decide) q⟩) | (refine ac_get C.1 ?_; conv => whnf) | (refine ⟨_, C.1, Nat.le_of_ble_eq_true rfl, Nat.le_of_ble_eq_true rfl, Nat.le_of_ble_eq_true rfl, ?_⟩) | (refine ⟨Nat.le_of_ble_eq_true rfl, Nat.le_of_ble_eq_true rfl, Nat.le_of_ble_eq_true rfl, ?_⟩))
    exact ⟨rfl, hQ _ _ CH (fun b hb _ => F b hb) ho' (fun z => absurd z (by decide)), by decide, by decide⟩
end WRP
