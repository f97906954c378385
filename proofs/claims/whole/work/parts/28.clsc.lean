/-! ===== the class: an element put; constructors; a new item held ===== -/
section CLC
variable {h : ac_H} {Z : Nat → Prop} {x : Nat} {ad : Nat → Nat} {ow : Nat → Option Nat} {hd : Nat} {hf : Nat → Option Nat} {S : m_S} {Q : ac_Q}
theorem c_rr {r : Int32} (h1 : m_bad r 8 → Q (.inr 0) h) (h2 : ∀ k, k < 8 → r = nI k → Q (.inl none) h) : T_X5_requireRegister [.int r] h Q := by
  refine sp_requireRegister (fun b1 b2 => ?_) (fun b => h1 b)
  obtain ⟨k, hk, e⟩ := m_badN (i := r) (z := 8) (by decide) (fun z => z.elim b1 (fun z => i32_lt_nle b2 z))
  exact h2 k hk e
/-- an element of a vector of numbers changes -/
theorem c_setN (C : c_ch h Z x ad ow hd hf S) (W : m_wf S) {g p s : Nat} {w : Int64} {f : Nat → Int64} (hg : g < m_mk S) (hk : m_kd S g ≤ 7) (l : m_lo S (6 * g) = false) (hp : p < m_ln S g) (q1 : h (ad g) = some (.inl (6, [.int (nI (m_kd S g)), .ref s, .null]))) (q2 : ow s = some g) (q3 : h s = some (.inr (2, m_ln S g, .inr (.inl f)))) (q4 : ∀ e, e < m_ln S g → f e = m_st S (24 * g + e)) : c_ch (ac_hs h s (.inr (2, m_ln S g, .inr (.inl (vp_updL f p w))))) Z x ad ow hd hf (m_sst S (24 * g + p) w) ∧ c_fz Z h (ac_hs h s (.inr (2, m_ln S g, .inr (.inl (vp_updL f p w))))) := by
  have h24 := (W.2.2 g hg).2.1
  have ns : ad g ≠ s := fun z => by rw [z, q3] at q1; cases q1
  refine c_mod (g := g) C W (fun _ _ => rfl) (fun b _ o => ac_hsN (fun z => o (by rw [z]; exact q2))) ?_ (fun i hi n => ?_) rfl rfl
  · have a1 := (C.2.2.2.1 g hg).1
    refine ⟨a1, fun _ l' => ?_, fun _ _ => ⟨s, vp_updL f p w, (ac_hsN ns).trans q1, q2, ac_hsE, fun e he => ?_⟩, fun k _ => ?_, fun k => ?_, fun k => ?_, fun k => ?_⟩
    · exact absurd (l.symm.trans l') (by decide)
    · show vp_updL f p w e = vp_updL (m_st S) (24 * g + p) w (24 * g + e)
      by_cases c : e = p
      · subst c
        rw [vp_updE, vp_updE]
      · rw [vp_updN c, vp_updN (by omega)]
        exact q4 e he
    · exact absurd (show m_kd S g = 8 from k) (by omega)
    · exact absurd (show m_kd S g = 9 from k) (by omega)
    · exact absurd (show m_kd S g = 10 from k) (by omega)
    · exact absurd (show m_kd S g = 11 from k) (by omega)
  · exact ⟨rfl, rfl, rfl, rfl, rfl, rfl, fun _ _ => rfl, fun e he => vp_updN (by omega)⟩
theorem c_put (C : c_ch h Z x ad ow hd hf S) (W : m_wf S) {i : Nat} (hi : i < m_mk S) (hk : m_kd S (m_gr S i) ≤ 7) {ix : Int32} {v : Int64} (h1 : ¬ (m_pl S i ix).1 = 7 → Q (.inr (m_pl S i ix).1) h) (h2 : (m_pl S i ix).1 = 7 → ∀ h', c_ch h' Z x ad ow hd hf (m_sst S (24 * m_gr S i + (m_pl S i ix).2) (m_fit (m_kd S (m_gr S i)) v)) → c_fz Z h h' → Q (.inl (some (.long (m_fit (m_kd S (m_gr S i)) v)))) h') : T_X5_putElement [.ref (ad i), .int ix, .long v] h Q := by
  obtain ⟨w1, w2, w3, w4, w5, w6, w7, w8, w9, w10⟩ := W.2.2 i hi
  have n9 : m_kd S i ≠ 9 := fun z => by rw [(w9 (by omega)).1] at hk; omega
  have n10 : m_kd S i ≠ 10 := fun z => by rw [(w9 (by omega)).1] at hk; omega
  have A := C.2.2.2.1 _ w4
  (intro P hP; conv => whnf)
  repeat (first | (refine hP _ _ _ _ _ _ ?_; conv => whnf) | (refine ⟨fun q => absurd q (by decide), fun _ => ?_⟩) | (refine ⟨fun _ => ?_, fun q => absurd (by decide) q⟩) | (refine ac_get C.1 ?_; conv => whnf) | (refine ⟨_, C.1, Nat.le_of_ble_eq_true rfl, Nat.le_of_ble_eq_true rfl, Nat.le_of_ble_eq_true rfl, ?_⟩) | (refine ⟨Nat.le_of_ble_eq_true rfl, Nat.le_of_ble_eq_true rfl, Nat.le_of_ble_eq_true rfl, ?_⟩))
  refine c_place C W hi (by omega) (fun q => ?_) (fun q => ?_)
  · refine ac_koX (c_x7 q) ?_
    exact h1 q
  · obtain ⟨p1, p2, p3⟩ := m_pl7 W hi q
    obtain ⟨s, f, q1, q2, q3, q4⟩ := A.2.2.1 hk p1
    have h24 := (W.2.2 _ w4).2.1
    have ns : ad (m_gr S i) ≠ s := fun z => by rw [z, q3] at q1; cases q1
    obtain ⟨C', F'⟩ := c_setN C W (w := m_fit (m_kd S (m_gr S i)) v) w4 hk p1 p2 q1 q2 q3 q4
    repeat (first | (refine hP _ _ _ _ _ _ ?_; conv => whnf) | (refine ⟨fun q => absurd q (by decide), fun _ => ?_⟩) | (refine ⟨fun _ => ?_, fun q => absurd (by decide) q⟩) | (refine ac_get C.1 ?_; conv => whnf) | (refine ⟨_, C.1, Nat.le_of_ble_eq_true rfl, Nat.le_of_ble_eq_true rfl, Nat.le_of_ble_eq_true rfl, ?_⟩) | (refine ⟨Nat.le_of_ble_eq_true rfl, Nat.le_of_ble_eq_true rfl, Nat.le_of_ble_eq_true rfl, ?_⟩))
    refine c_groundU C W hi (Nat.le_of_ble_eq_true rfl) (Nat.le_of_ble_eq_true rfl) (Nat.le_of_ble_eq_true rfl) n9 n10 ?_
    repeat (first | (refine hP _ _ _ _ _ _ ?_; conv => whnf) | (refine ⟨fun q => absurd q (by decide), fun _ => ?_⟩) | (refine ⟨fun _ => ?_, fun q => absurd (by decide) q⟩) | (refine ac_get C.1 ?_; conv => whnf) | (refine ⟨_, C.1, Nat.le_of_ble_eq_true rfl, Nat.le_of_ble_eq_true rfl, Nat.le_of_ble_eq_true rfl, ?_⟩) | (refine ⟨Nat.le_of_ble_eq_true rfl, Nat.le_of_ble_eq_true rfl, Nat.le_of_ble_eq_true rfl, ?_⟩))
    refine ac_get q1 ?_
    (conv => whnf)
    repeat (first | (refine hP _ _ _ _ _ _ ?_; conv => whnf) | (refine ⟨fun q => absurd q (by decide), fun _ => ?_⟩) | (refine ⟨fun _ => ?_, fun q => absurd (by decide) q⟩) | (refine ac_get C.1 ?_; conv => whnf) | (refine ⟨_, C.1, Nat.le_of_ble_eq_true rfl, Nat.le_of_ble_eq_true rfl, Nat.le_of_ble_eq_true rfl, ?_⟩) | (refine ⟨Nat.le_of_ble_eq_true rfl, Nat.le_of_ble_eq_true rfl, Nat.le_of_ble_eq_true rfl, ?_⟩))
    refine ac_get q1 ?_
    (conv => whnf)
    repeat (first | (refine hP _ _ _ _ _ _ ?_; conv => whnf) | (refine ⟨fun q => absurd q (by decide), fun _ => ?_⟩) | (refine ⟨fun _ => ?_, fun q => absurd (by decide) q⟩) | (refine ac_get C.1 ?_; conv => whnf) | (refine ⟨_, C.1, Nat.le_of_ble_eq_true rfl, Nat.le_of_ble_eq_true rfl, Nat.le_of_ble_eq_true rfl, ?_⟩) | (refine ⟨Nat.le_of_ble_eq_true rfl, Nat.le_of_ble_eq_true rfl, Nat.le_of_ble_eq_true rfl, ?_⟩))
    refine c_fit hk ?_
    repeat (first | (refine hP _ _ _ _ _ _ ?_; conv => whnf) | (refine ⟨fun q => absurd q (by decide), fun _ => ?_⟩) | (refine ⟨fun _ => ?_, fun q => absurd (by decide) q⟩) | (refine ac_get C.1 ?_; conv => whnf) | (refine ⟨_, C.1, Nat.le_of_ble_eq_true rfl, Nat.le_of_ble_eq_true rfl, Nat.le_of_ble_eq_true rfl, ?_⟩) | (refine ⟨Nat.le_of_ble_eq_true rfl, Nat.le_of_ble_eq_true rfl, Nat.le_of_ble_eq_true rfl, ?_⟩))
    refine ⟨_, _, q3, vp_in_nI p2 (by omega), ?_⟩
    rw [nI_clamp (by omega)]
    repeat (first | (refine hP _ _ _ _ _ _ ?_; conv => whnf) | (refine ⟨fun q => absurd q (by decide), fun _ => ?_⟩) | (refine ⟨fun _ => ?_, fun q => absurd (by decide) q⟩) | (refine ac_get C.1 ?_; conv => whnf) | (refine ⟨_, C.1, Nat.le_of_ble_eq_true rfl, Nat.le_of_ble_eq_true rfl, Nat.le_of_ble_eq_true rfl, ?_⟩) | (refine ⟨Nat.le_of_ble_eq_true rfl, Nat.le_of_ble_eq_true rfl, Nat.le_of_ble_eq_true rfl, ?_⟩))
    refine ac_get ((ac_hsN ns).trans q1) ?_
    (conv => whnf)
    repeat (first | (refine hP _ _ _ _ _ _ ?_; conv => whnf) | (refine ⟨fun q => absurd q (by decide), fun _ => ?_⟩) | (refine ⟨fun _ => ?_, fun q => absurd (by decide) q⟩) | (refine ac_get C.1 ?_; conv => whnf) | (refine ⟨_, C.1, Nat.le_of_ble_eq_true rfl, Nat.le_of_ble_eq_true rfl, Nat.le_of_ble_eq_true rfl, ?_⟩) | (refine ⟨Nat.le_of_ble_eq_true rfl, Nat.le_of_ble_eq_true rfl, Nat.le_of_ble_eq_true rfl, ?_⟩))
    refine ⟨_, _, ac_hsE, vp_in_nI p2 (by omega), ?_⟩
    rw [nI_clamp (by omega), vp_updE]
    repeat (first | (refine hP _ _ _ _ _ _ ?_; conv => whnf) | (refine ⟨fun q => absurd q (by decide), fun _ => ?_⟩) | (refine ⟨fun _ => ?_, fun q => absurd (by decide) q⟩) | (refine ac_get C.1 ?_; conv => whnf) | (refine ⟨_, C.1, Nat.le_of_ble_eq_true rfl, Nat.le_of_ble_eq_true rfl, Nat.le_of_ble_eq_true rfl, ?_⟩) | (refine ⟨Nat.le_of_ble_eq_true rfl, Nat.le_of_ble_eq_true rfl, Nat.le_of_ble_eq_true rfl, ?_⟩))
    exact ⟨rfl, h2 q _ C' F', by decide, by decide⟩
theorem wf_add {S' : m_S} {k : Nat} (W : m_wf S) (hm : m_mk S < 512) (e2 : m_mk S' = m_mk S + 1) (e1 : m_rg S' = va_up (m_rg S) k (some (m_mk S))) (ag : ∀ i, i < m_mk S → c_ag S S' i ∧ m_bs S' i = m_bs S i ∧ m_of S' i = m_of S i) (N : m_wi S' (m_mk S)) : m_wf S' := by
  refine ⟨by omega, fun r i hr e => ?_, fun i hi => ?_⟩
  · rw [e1] at e
    by_cases c : r = k
    · subst c
      rw [va_upE] at e
      cases e
      omega
    · rw [va_upN c] at e
      have := W.2.1 r i hr e
      omega
  · by_cases c : i = m_mk S
    · subst c
      exact N
    · have hi' : i < m_mk S := by omega
      have lk : ∀ v, m_lk S v → m_lk S' v := fun v L => ⟨L.1, fun j ej => by have := L.2 j ej; omega⟩
      obtain ⟨w1, w2, w3, w4, w5, w6, w7, w8, w9, w10⟩ := W.2.2 i hi'
      obtain ⟨⟨g1, g2, g3, g4, g5, g6, g7, g8⟩, g9, g10⟩ := ag i hi'
      have kg := (ag _ w4).1.1
      refine ⟨by rw [g1]; exact w1, by rw [g2]; exact w2, by rw [g5]; exact w3, by rw [g4]; omega, by rw [g4, kg]; exact w5, ?_, ?_, ?_, ?_, ?_⟩
      · rw [g1, g2, g3]
        exact w6
      · rw [g1]
        intro k8 e he
        rw [g8 e he]
        exact lk _ (w7 k8 e he)
      · rw [g1, g8 1 (by omega)]
        intro k10
        obtain ⟨u1, u2⟩ := w8 k10
        refine ⟨lk _ u1, fun j ej => ?_⟩
        rw [(ag j (u1.2 j ej)).1.1]
        exact u2 j ej
      · rw [g1, g4, g5, g6]
        exact w9
      · rw [g1, g4, kg, g5, g6, g9, g10]
        intro k11
        obtain ⟨b1, b2, b3, b4, b5, b6, b7⟩ := w10 k11
        obtain ⟨v1, v2, v3, v4, v5, v6, v7, v8⟩ := (ag _ b1).1
        rw [v1, v4, v5, v6]
        exact ⟨by omega, b2, b3, b4, b5, b6, b7⟩
theorem ag_fresh {r k n i : Nat} (hi : i < m_mk S) : c_ag S (m_fresh S r k n) i := by
  refine ⟨va_upN (by omega), va_upN (by omega), rfl, rfl, rfl, rfl, fun t ht => ?_, fun e he => ?_⟩
  · exact if_neg (by omega)
  · exact if_neg (by omega)
theorem fr_st {r k n e : Nat} (he : e < 24) : m_st (m_fresh S r k n) (24 * m_mk S + e) = m_fv k e := by
  refine (if_pos (by omega)).trans ?_
  rw [show 24 * m_mk S + e - 24 * m_mk S = e by omega]
theorem fr_lo {r k n t : Nat} (ht : t < 6) : m_lo (m_fresh S r k n) (6 * m_mk S + t) = false := if_pos (by omega)
theorem fr_kd {r k n : Nat} : m_kd (m_fresh S r k n) (m_mk S) = k := va_upE
theorem fr_ln {r k n : Nat} : m_ln (m_fresh S r k n) (m_mk S) = n := va_upE
theorem m_lkN : m_lk S (-1) := ⟨by decide, fun j e => absurd e (by rw [show m_dl (-1) = none by decide]; exact fun z => by cases z)⟩
/-- a vector of numbers, made -/
theorem sp_X3_initN {q s n : Nat} (hq : h q = some (.inl (6, ac_fr 6))) (hs : s ≤ 7) (hn : n ≤ 24) (h1 : ∀ h' s1, h s1 = none → h' q = some (.inl (6, [.int (nI s), .ref s1, .null])) → h' s1 = some (.inr (2, n, .inr (.inl (fun _ => 0)))) → (∀ b, b ≠ q → b ≠ s1 → h' b = h b) → Q (.inl none) h') : T_X3_init [.ref q, .int (nI s), .int (nI n)] h Q := by
  (intro P hP; conv => whnf)
  repeat (first | (refine hP _ _ _ _ _ _ ?_; conv => whnf) | (refine ⟨fun q => absurd q (by decide), fun _ => ?_⟩) | (refine ⟨fun _ => ?_, fun q => absurd (by decide) q⟩) | (refine ⟨_, by assumption, ?_⟩; conv => whnf))
  refine ⟨Nat.le_of_ble_eq_true rfl, Nat.le_of_ble_eq_true rfl, Nat.le_of_ble_eq_true rfl, ?_⟩
  refine sp_X1_init ?_
  repeat (first | (refine hP _ _ _ _ _ _ ?_; conv => whnf) | (refine ⟨fun q => absurd q (by decide), fun _ => ?_⟩) | (refine ⟨fun _ => ?_, fun q => absurd (by decide) q⟩) | (refine ⟨_, by assumption, ?_⟩; conv => whnf))
  refine br_t (nI_ne (b := 8) (by omega) (by omega) (by decide)) ?_
  repeat (first | (refine hP _ _ _ _ _ _ ?_; conv => whnf) | (refine ⟨fun q => absurd q (by decide), fun _ => ?_⟩) | (refine ⟨fun _ => ?_, fun q => absurd (by decide) q⟩) | (refine ⟨_, by assumption, ?_⟩; conv => whnf))
  refine ⟨nI_pos (by omega), 24, by rw [nI_clamp (by omega)]; exact hn, by decide, Nat.le_of_ble_eq_true rfl, Nat.le_of_ble_eq_true rfl, fun s1 hs1 => ?_⟩
  have n1 : s1 ≠ q := fun z => by rw [z, ac_hsE] at hs1; cases hs1
  have hs2 : h s1 = none := (ac_hsN n1).symm.trans hs1
  rw [nI_clamp (by omega)]
  repeat (first | (refine hP _ _ _ _ _ _ ?_; conv => whnf) | (refine ⟨fun q => absurd q (by decide), fun _ => ?_⟩) | (refine ⟨fun _ => ?_, fun q => absurd (by decide) q⟩) | (refine ⟨_, by assumption, ?_⟩; conv => whnf))
  refine ⟨_, (ac_hsN (fun z => n1 z.symm)).trans ac_hsE, ?_⟩
  (conv => whnf)
  repeat (first | (refine hP _ _ _ _ _ _ ?_; conv => whnf) | (refine ⟨fun q => absurd q (by decide), fun _ => ?_⟩) | (refine ⟨fun _ => ?_, fun q => absurd (by decide) q⟩) | (refine ⟨_, by assumption, ?_⟩; conv => whnf))
  refine ⟨rfl, h1 _ s1 hs2 ac_hsE ((ac_hsN n1).trans ac_hsE) (fun b b1 b2 => ?_), by decide, by decide⟩
  rw [ac_hsN b1, ac_hsN b2, ac_hsN b1]
theorem sp_X3_initI {q n : Nat} (hq : h q = some (.inl (6, ac_fr 6))) (hn : n ≤ 24) (h1 : ∀ h' s1, h s1 = none → h' q = some (.inl (6, [.int (nI 8), .null, .ref s1])) → h' s1 = some (.inr (3, n, .inr (.inr (fun _ => none)))) → (∀ b, b ≠ q → b ≠ s1 → h' b = h b) → Q (.inl none) h') : T_X3_init [.ref q, .int (nI 8), .int (nI n)] h Q := by
  (intro P hP; conv => whnf)
  repeat (first | (refine hP _ _ _ _ _ _ ?_; conv => whnf) | (refine ⟨fun q => absurd q (by decide), fun _ => ?_⟩) | (refine ⟨fun _ => ?_, fun q => absurd (by decide) q⟩) | (refine ⟨_, by assumption, ?_⟩; conv => whnf))
  refine ⟨Nat.le_of_ble_eq_true rfl, Nat.le_of_ble_eq_true rfl, Nat.le_of_ble_eq_true rfl, ?_⟩
  refine sp_X1_init ?_
  repeat (first | (refine hP _ _ _ _ _ _ ?_; conv => whnf) | (refine ⟨fun q => absurd q (by decide), fun _ => ?_⟩) | (refine ⟨fun _ => ?_, fun q => absurd (by decide) q⟩) | (refine ⟨_, by assumption, ?_⟩; conv => whnf))
  refine ⟨nI_pos (by omega), 24, by rw [nI_clamp (by omega)]; exact hn, by decide, Nat.le_of_ble_eq_true rfl, Nat.le_of_ble_eq_true rfl, fun s1 hs1 => ?_⟩
  have n1 : s1 ≠ q := fun z => by rw [z, ac_hsE] at hs1; cases hs1
  have hs2 : h s1 = none := (ac_hsN n1).symm.trans hs1
  rw [nI_clamp (by omega)]
  repeat (first | (refine hP _ _ _ _ _ _ ?_; conv => whnf) | (refine ⟨fun q => absurd q (by decide), fun _ => ?_⟩) | (refine ⟨fun _ => ?_, fun q => absurd (by decide) q⟩) | (refine ⟨_, by assumption, ?_⟩; conv => whnf))
  refine ⟨_, (ac_hsN (fun z => n1 z.symm)).trans ac_hsE, ?_⟩
  (conv => whnf)
  repeat (first | (refine hP _ _ _ _ _ _ ?_; conv => whnf) | (refine ⟨fun q => absurd q (by decide), fun _ => ?_⟩) | (refine ⟨fun _ => ?_, fun q => absurd (by decide) q⟩) | (refine ⟨_, by assumption, ?_⟩; conv => whnf))
  refine ⟨rfl, h1 _ s1 hs2 ac_hsE ((ac_hsN n1).trans ac_hsE) (fun b b1 b2 => ?_), by decide, by decide⟩
  rw [ac_hsN b1, ac_hsN b2, ac_hsN b1]
theorem sp_X2_init {q : Nat} (hq : h q = some (.inl (5, ac_fr 5))) (h1 : ∀ h', h' q = some (.inl (5, [.long 0, .null])) → (∀ b, b ≠ q → h' b = h b) → Q (.inl none) h') : T_X2_init [.ref q] h Q := by
  (intro P hP; conv => whnf)
  repeat (first | (refine hP _ _ _ _ _ _ ?_; conv => whnf) | (refine ⟨fun q => absurd q (by decide), fun _ => ?_⟩) | (refine ⟨fun _ => ?_, fun q => absurd (by decide) q⟩) | (refine ⟨_, by assumption, ?_⟩; conv => whnf))
  refine ⟨Nat.le_of_ble_eq_true rfl, Nat.le_of_ble_eq_true rfl, Nat.le_of_ble_eq_true rfl, ?_⟩
  refine sp_X1_init ?_
  repeat (first | (refine hP _ _ _ _ _ _ ?_; conv => whnf) | (refine ⟨fun q => absurd q (by decide), fun _ => ?_⟩) | (refine ⟨fun _ => ?_, fun q => absurd (by decide) q⟩) | (refine ⟨_, by assumption, ?_⟩; conv => whnf))
  refine ⟨_, ac_hsE, ?_⟩
  (conv => whnf)
  repeat (first | (refine hP _ _ _ _ _ _ ?_; conv => whnf) | (refine ⟨fun q => absurd q (by decide), fun _ => ?_⟩) | (refine ⟨fun _ => ?_, fun q => absurd (by decide) q⟩) | (refine ⟨_, by assumption, ?_⟩; conv => whnf))
  refine ⟨rfl, h1 _ ac_hsE (fun b b1 => ?_), by decide, by decide⟩
  rw [ac_hsN b1, ac_hsN b1]
theorem sp_X4_init {q g : Nat} {s d : Int32} (hq : h q = some (.inl (7, ac_fr 7))) (h1 : ∀ h', h' q = some (.inl (7, [.ref g, .int s, .int d])) → (∀ b, b ≠ q → h' b = h b) → Q (.inl none) h') : T_X4_init [.ref q, .ref g, .int s, .int d] h Q := by
  (intro P hP; conv => whnf)
  repeat (first | (refine hP _ _ _ _ _ _ ?_; conv => whnf) | (refine ⟨fun q => absurd q (by decide), fun _ => ?_⟩) | (refine ⟨fun _ => ?_, fun q => absurd (by decide) q⟩) | (refine ⟨_, by assumption, ?_⟩; conv => whnf))
  refine ⟨Nat.le_of_ble_eq_true rfl, Nat.le_of_ble_eq_true rfl, Nat.le_of_ble_eq_true rfl, ?_⟩
  refine sp_X1_init ?_
  repeat (first | (refine hP _ _ _ _ _ _ ?_; conv => whnf) | (refine ⟨fun q => absurd q (by decide), fun _ => ?_⟩) | (refine ⟨fun _ => ?_, fun q => absurd (by decide) q⟩) | (refine ⟨_, by assumption, ?_⟩; conv => whnf))
  refine ⟨_, ac_hsE, ?_⟩
  (conv => whnf)
  repeat (first | (refine hP _ _ _ _ _ _ ?_; conv => whnf) | (refine ⟨fun q => absurd q (by decide), fun _ => ?_⟩) | (refine ⟨fun _ => ?_, fun q => absurd (by decide) q⟩) | (refine ⟨_, by assumption, ?_⟩; conv => whnf))
  refine ⟨_, ac_hsE, ?_⟩
  (conv => whnf)
  repeat (first | (refine hP _ _ _ _ _ _ ?_; conv => whnf) | (refine ⟨fun q => absurd q (by decide), fun _ => ?_⟩) | (refine ⟨fun _ => ?_, fun q => absurd (by decide) q⟩) | (refine ⟨_, by assumption, ?_⟩; conv => whnf))
  refine ⟨rfl, h1 _ ac_hsE (fun b b1 => ?_), by decide, by decide⟩
  rw [ac_hsN b1, ac_hsN b1, ac_hsN b1]
theorem sp_X0_init {q a c : Nat} (hq : h q = some (.inl (4, ac_fr 4))) (ha : a ≤ 6) (hc : c ≤ 4) (h1 : ∀ h' s1, (∀ j, j ≤ a → h (s1 + j) = none) → h' q = some (.inl (4, [.ref s1])) → h' s1 = some (.inr (4, a, .inr (.inr (fun j => if j < a then some (s1 + 1 + j) else none)))) → (∀ j, j < a → h' (s1 + 1 + j) = some (.inr (0, c, .inl (fun _ => 0)))) → (∀ b, b ≠ q → (b < s1 ∨ s1 + a < b) → h' b = h b) → Q (.inl none) h') : T_X0_init [.ref q, .int (nI a), .int (nI c)] h Q := by
  (intro P hP; conv => whnf)
  repeat (first | (refine hP _ _ _ _ _ _ ?_; conv => whnf) | (refine ⟨fun q => absurd q (by decide), fun _ => ?_⟩) | (refine ⟨fun _ => ?_, fun q => absurd (by decide) q⟩) | (refine ⟨_, by assumption, ?_⟩; conv => whnf))
  refine ⟨Nat.le_of_ble_eq_true rfl, Nat.le_of_ble_eq_true rfl, Nat.le_of_ble_eq_true rfl, ?_⟩
  refine sp_X1_init ?_
  repeat (first | (refine hP _ _ _ _ _ _ ?_; conv => whnf) | (refine ⟨fun q => absurd q (by decide), fun _ => ?_⟩) | (refine ⟨fun _ => ?_, fun q => absurd (by decide) q⟩) | (refine ⟨_, by assumption, ?_⟩; conv => whnf))
  refine ⟨nI_pos (by omega), nI_pos (by omega), by rw [nI_clamp (by omega)]; exact ha, by rw [nI_clamp (by omega)]; exact hc, Nat.le_of_ble_eq_true rfl, Nat.le_of_ble_eq_true rfl, fun s1 hs1 => ?_⟩
  rw [nI_clamp (by omega)] at hs1
  rw [nI_clamp (by omega), nI_clamp (by omega)]
  have n1 : ∀ j, j ≤ a → q ≠ s1 + j := fun j hj z => by rw [z, hs1 j hj] at hq; cases hq
  have nq : ¬ (q = s1) := n1 0 (by omega)
  have nq2 : ¬ (s1 < q ∧ q ≤ s1 + a) := fun z => n1 (q - s1) (by omega) (by omega)
  repeat (first | (refine hP _ _ _ _ _ _ ?_; conv => whnf) | (refine ⟨fun q => absurd q (by decide), fun _ => ?_⟩) | (refine ⟨fun _ => ?_, fun q => absurd (by decide) q⟩) | (refine ⟨_, by assumption, ?_⟩; conv => whnf))
  refine ⟨_, (show ac_mh h s1 a c q = _ from (if_neg nq).trans ((if_neg nq2).trans hq)), ?_⟩
  (conv => whnf)
  repeat (first | (refine hP _ _ _ _ _ _ ?_; conv => whnf) | (refine ⟨fun q => absurd q (by decide), fun _ => ?_⟩) | (refine ⟨fun _ => ?_, fun q => absurd (by decide) q⟩) | (refine ⟨_, by assumption, ?_⟩; conv => whnf))
  refine ⟨rfl, h1 _ s1 hs1 ac_hsE ?_ (fun j hj => ?_) (fun b b1 b2 => ?_), by decide, by decide⟩
  · exact (ac_hsN (fun z => nq z.symm)).trans (if_pos rfl)
  · refine (ac_hsN (fun z => n1 (1 + j) (by omega) (by omega))).trans ?_
    exact (if_neg (by omega)).trans (if_pos (by omega))
  · refine (ac_hsN b1).trans ?_
    exact (if_neg (by omega)).trans (if_neg (by omega))
theorem c_hold {k q ci n : Nat} {fs : List Value} (hx : h x = some (.inl (8, [.ref hd, .int (nI n)]))) (hh : h hd = some (.inr (3, 8, .inr (.inr hf)))) (hq : h q = some (.inl (ci, fs))) (hc : ∀ X : Prop, X → ac_item ci X) (hk : k < 8) (h1 : ∀ h', h' x = some (.inl (8, [.ref hd, .int (nI (n + 1))])) → h' hd = some (.inr (3, 8, .inr (.inr (va_up hf k (some q))))) → (∀ b, b ≠ x → b ≠ hd → h' b = h b) → Q (.inl (some (.int (nI (n + 1))))) h') : T_X5_holdNew [.ref x, .int (nI k), .ref q] h Q := by
  have hxd : x ≠ hd := fun z => by rw [z, hh] at hx; cases hx
  (intro P hP; conv => whnf)
  repeat (first | (refine hP _ _ _ _ _ _ ?_; conv => whnf) | (refine ⟨fun q => absurd q (by decide), fun _ => ?_⟩) | (refine ⟨fun _ => ?_, fun q => absurd (by decide) q⟩) | (refine ⟨_, by assumption, ?_⟩; conv => whnf))
  refine ⟨rfl, _, _, _, _, hh, hq, hc _ ⟨vp_in_nI hk (by decide), ?_⟩⟩
  rw [nI_clamp (by omega)]
  have e1 : ac_hs h hd (.inr (3, 8, .inr (.inr (va_up hf k (some q))))) x = some (.inl (8, [.ref hd, .int (nI n)])) := (ac_hsN hxd).trans hx
  repeat (first | (refine hP _ _ _ _ _ _ ?_; conv => whnf) | (refine ⟨fun q => absurd q (by decide), fun _ => ?_⟩) | (refine ⟨fun _ => ?_, fun q => absurd (by decide) q⟩) | (refine ⟨_, by assumption, ?_⟩; conv => whnf))
  refine ⟨_, ac_hsE, ?_⟩
  (conv => whnf)
  repeat (first | (refine hP _ _ _ _ _ _ ?_; conv => whnf) | (refine ⟨fun q => absurd q (by decide), fun _ => ?_⟩) | (refine ⟨fun _ => ?_, fun q => absurd (by decide) q⟩) | (refine ⟨_, by assumption, ?_⟩; conv => whnf))
  have e2 := h1 (ac_hs (ac_hs h hd (.inr (3, 8, .inr (.inr (va_up hf k (some q)))))) x (.inl (8, [.ref hd, .int (nI n + 1)]))) (by rw [← nI_1]; exact ac_hsE) ((ac_hsN (fun z => hxd z.symm)).trans ac_hsE) (fun b b1 b2 => by rw [ac_hsN b1, ac_hsN b2])
  rw [← nI_1] at e2
  exact ⟨rfl, e2, by decide, by decide⟩
end CLC
