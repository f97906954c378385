/-! ===== the class: new items ===== -/
section CLD
variable {h : ac_H} {Z : Nat → Prop} {x : Nat} {ad : Nat → Nat} {ow : Nat → Option Nat} {hd : Nat} {hf : Nat → Option Nat} {S : m_S} {Q : ac_Q}
theorem c_ext {h' : ac_H} (C : c_ch h Z x ad ow hd hf S) (W : m_wf S) (ext : ∀ b, h b ≠ none → h' b = h b) : c_ch h' Z x ad ow hd hf S := by
  obtain ⟨C1, C2, C3, C4, C5, C6, C7, C8, C9⟩ := C
  refine ⟨?_, ?_, C3, ?_, ?_, C6, C7, C8, C9⟩
  · rw [ext x (fun z => by rw [z] at C1; cases C1)]
    exact C1
  · rw [ext hd (fun z => by rw [z] at C2; cases C2)]
    exact C2
  · intro i hi
    exact c_itF W hi (C4 i hi) c_ag0 (fun _ _ => rfl) (fun b o n => ⟨ext b n, o⟩)
  · intro b hb
    obtain ⟨z1, z2⟩ := C5 b hb
    rw [ext b z1]
    exact ⟨z1, z2⟩
theorem ac_hsX {q : Nat} {e : ac_E} (hq : h q = none) : ∀ b, h b ≠ none → ac_hs h q e b = h b := fun b n => ac_hsN (fun z => n (by rw [z]; exact hq))
theorem ag_gh {r k n i g d : Nat} {s : Int32} (hi : i < m_mk S) : c_ag S (m_sgh (m_fresh S r k n) (m_mk S) g d s) i ∧ m_bs (m_sgh (m_fresh S r k n) (m_mk S) g d s) i = m_bs S i ∧ m_of (m_sgh (m_fresh S r k n) (m_mk S) g d s) i = m_of S i := by
  obtain ⟨g1, g2, g3, g4, g5, g6, g7, g8⟩ := ag_fresh (S := S) (r := r) (k := k) (n := n) hi
  exact ⟨⟨by rw [p_kd_sgh]; exact g1, by rw [p_ln_sgh]; exact g2, by rw [p_wd_sgh]; exact g3, by rw [p_gr_sgh]; exact va_upN (by omega), by rw [p_dp_sgh]; exact va_upN (by omega), by rw [p_sh_sgh]; exact updN (by omega), by rw [p_lo_sgh]; exact g7, by rw [p_st_sgh]; exact g8⟩, by rw [p_bs_sgh]; rfl, by rw [p_of_sgh]; rfl⟩
theorem ag_gr {r k n i g d c : Nat} {s : Int32} (hi : i < m_mk S) : c_ag S (m_sgh (m_swd (m_fresh S r k n) (m_mk S) c) (m_mk S) g d s) i ∧ m_bs (m_sgh (m_swd (m_fresh S r k n) (m_mk S) c) (m_mk S) g d s) i = m_bs S i ∧ m_of (m_sgh (m_swd (m_fresh S r k n) (m_mk S) c) (m_mk S) g d s) i = m_of S i := by
  obtain ⟨g1, g2, g3, g4, g5, g6, g7, g8⟩ := ag_fresh (S := S) (r := r) (k := k) (n := n) hi
  exact ⟨⟨by rw [p_kd_sgh, p_kd_swd]; exact g1, by rw [p_ln_sgh, p_ln_swd]; exact g2, by rw [p_wd_sgh, p_wd_swd]; exact va_upN (by omega), by rw [p_gr_sgh]; exact va_upN (by omega), by rw [p_dp_sgh]; exact va_upN (by omega), by rw [p_sh_sgh]; exact updN (by omega), by rw [p_lo_sgh, p_lo_swd]; exact g7, by rw [p_st_sgh, p_st_swd]; exact g8⟩, by rw [p_bs_sgh, p_bs_swd]; rfl, by rw [p_of_sgh, p_of_swd]; rfl⟩
theorem ag_wi {r k n i g d b : Nat} {s o : Int32} (hi : i < m_mk S) : c_ag S (m_sgh (m_sof (m_sbs (m_fresh S r k n) (m_mk S) b) (m_mk S) o) (m_mk S) g d s) i ∧ m_bs (m_sgh (m_sof (m_sbs (m_fresh S r k n) (m_mk S) b) (m_mk S) o) (m_mk S) g d s) i = m_bs S i ∧ m_of (m_sgh (m_sof (m_sbs (m_fresh S r k n) (m_mk S) b) (m_mk S) o) (m_mk S) g d s) i = m_of S i := by
  obtain ⟨g1, g2, g3, g4, g5, g6, g7, g8⟩ := ag_fresh (S := S) (r := r) (k := k) (n := n) hi
  exact ⟨⟨by rw [p_kd_sgh, p_kd_sof, p_kd_sbs]; exact g1, by rw [p_ln_sgh, p_ln_sof, p_ln_sbs]; exact g2, by rw [p_wd_sgh, p_wd_sof, p_wd_sbs]; exact g3, by rw [p_gr_sgh]; exact va_upN (by omega), by rw [p_dp_sgh]; exact va_upN (by omega), by rw [p_sh_sgh]; exact updN (by omega), by rw [p_lo_sgh, p_lo_sof, p_lo_sbs]; exact g7, by rw [p_st_sgh, p_st_sof, p_st_sbs]; exact g8⟩, by rw [p_bs_sgh, p_bs_sof, p_bs_sbs]; exact va_upN (by omega), by rw [p_of_sgh, p_of_sof]; exact updN (by omega)⟩
theorem fr_lo0 {r k n : Nat} : m_lo (m_fresh S r k n) (6 * m_mk S) = false := fr_lo (S := S) (r := r) (k := k) (n := n) (t := 0) (by omega)
theorem fr_st0 {r k n : Nat} : m_st (m_fresh S r k n) (24 * m_mk S) = m_fv k 0 := fr_st (S := S) (r := r) (k := k) (n := n) (e := 0) (by omega)
theorem wf_v {r s n : Nat} (W : m_wf S) (hm : m_mk S < 512) (hs : s ≤ 8 ∨ s = 10) (hn : n ≤ 24) : m_wf (m_sgh (m_fresh S r s n) (m_mk S) (m_mk S) 0 0) := by
  refine wf_add W hm rfl rfl (fun i hi => ag_gh hi) ?_
  have k1 : m_kd (m_sgh (m_fresh S r s n) (m_mk S) (m_mk S) 0 0) (m_mk S) = s := by rw [p_kd_sgh]; exact fr_kd
  have l1 : m_ln (m_sgh (m_fresh S r s n) (m_mk S) (m_mk S) 0 0) (m_mk S) = n := by rw [p_ln_sgh]; exact fr_ln
  have g1 : m_gr (m_sgh (m_fresh S r s n) (m_mk S) (m_mk S) 0 0) (m_mk S) = m_mk S := by rw [p_gr_sgh]; exact va_upE
  have d1 : m_dp (m_sgh (m_fresh S r s n) (m_mk S) (m_mk S) 0 0) (m_mk S) = 0 := by rw [p_dp_sgh]; exact va_upE
  have s1 : m_sh (m_sgh (m_fresh S r s n) (m_mk S) (m_mk S) 0 0) (m_mk S) = 0 := by rw [p_sh_sgh]; exact updE
  have e1 : ∀ e, e < 24 → m_st (m_sgh (m_fresh S r s n) (m_mk S) (m_mk S) 0 0) (24 * m_mk S + e) = m_fv s e := fun e he => by rw [p_st_sgh]; exact fr_st he
  refine ⟨by omega, by omega, by omega, by rw [g1]; exact Nat.lt_succ_self _, by rw [g1]; omega, fun z => by omega, fun z e he => ?_, fun z => ?_, fun _ => ⟨g1, d1, s1⟩, fun z => by omega⟩
  · rw [e1 e he, show m_fv s e = -1 from if_pos (Or.inl (by omega))]
    exact m_lkN
  · rw [e1 1 (by omega), show m_fv s 1 = -1 from if_pos (Or.inr ⟨by omega, rfl⟩)]
    exact ⟨m_lkN, fun j ej => absurd ej (by rw [show m_dl (-1) = none by decide]; exact fun z => by cases z)⟩
theorem wf_g {r a c : Nat} (W : m_wf S) (hm : m_mk S < 512) (ha : a ≤ 6) (hc : c ≤ 4) : m_wf (m_sgh (m_swd (m_fresh S r 9 a) (m_mk S) c) (m_mk S) (m_mk S) 0 0) := by
  refine wf_add W hm rfl rfl (fun i hi => ag_gr hi) ?_
  have k1 : m_kd (m_sgh (m_swd (m_fresh S r 9 a) (m_mk S) c) (m_mk S) (m_mk S) 0 0) (m_mk S) = 9 := by rw [p_kd_sgh, p_kd_swd]; exact fr_kd
  have l1 : m_ln (m_sgh (m_swd (m_fresh S r 9 a) (m_mk S) c) (m_mk S) (m_mk S) 0 0) (m_mk S) = a := by rw [p_ln_sgh, p_ln_swd]; exact fr_ln
  have c1 : m_wd (m_sgh (m_swd (m_fresh S r 9 a) (m_mk S) c) (m_mk S) (m_mk S) 0 0) (m_mk S) = c := by rw [p_wd_sgh, p_wd_swd]; exact va_upE
  have g1 : m_gr (m_sgh (m_swd (m_fresh S r 9 a) (m_mk S) c) (m_mk S) (m_mk S) 0 0) (m_mk S) = m_mk S := by rw [p_gr_sgh]; exact va_upE
  have d1 : m_dp (m_sgh (m_swd (m_fresh S r 9 a) (m_mk S) c) (m_mk S) (m_mk S) 0 0) (m_mk S) = 0 := by rw [p_dp_sgh]; exact va_upE
  have s1 : m_sh (m_sgh (m_swd (m_fresh S r 9 a) (m_mk S) c) (m_mk S) (m_mk S) 0 0) (m_mk S) = 0 := by rw [p_sh_sgh]; exact updE
  exact ⟨by omega, by omega, by omega, by rw [g1]; exact Nat.lt_succ_self _, by rw [g1]; omega, fun z => ⟨by omega, by omega⟩, fun z => by omega, fun z => by omega, fun _ => ⟨g1, d1, s1⟩, fun z => by omega⟩
theorem wf_w {r i : Nat} {o : Int32} (W : m_wf S) (hm : m_mk S < 512) (hi : i < m_mk S) (n9 : m_kd S i ≠ 9) (n10 : m_kd S i ≠ 10) (hd : m_dp S i < 6) : m_wf (m_sgh (m_sof (m_sbs (m_fresh S r 11 0) (m_mk S) i) (m_mk S) o) (m_mk S) (m_gr S i) (m_dp S i + 1) (m_sh S i + o)) := by
  obtain ⟨w1, w2, w3, w4, w5, w6, w7, w8, w9, w10⟩ := W.2.2 i hi
  have hk8 : m_kd S (m_gr S i) ≤ 8 := by
    by_cases c : m_kd S i = 11
    · exact (w10 c).2.2.2.2.2.2
    · rw [(w9 c).1]
      omega
  have AG := fun j hj => ag_wi (S := S) (r := r) (k := 11) (n := 0) (g := m_gr S i) (d := m_dp S i + 1) (b := i) (s := m_sh S i + o) (o := o) (i := j) hj
  refine wf_add W hm rfl rfl AG ?_
  revert AG
  generalize hT : m_sgh (m_sof (m_sbs (m_fresh S r 11 0) (m_mk S) i) (m_mk S) o) (m_mk S) (m_gr S i) (m_dp S i + 1) (m_sh S i + o) = T
  intro AG
  have m1 : m_mk T = m_mk S + 1 := by rw [← hT]; rfl
  have k1 : m_kd T (m_mk S) = 11 := by rw [← hT, p_kd_sgh, p_kd_sof, p_kd_sbs]; exact fr_kd
  have l1 : m_ln T (m_mk S) = 0 := by rw [← hT, p_ln_sgh, p_ln_sof, p_ln_sbs]; exact fr_ln
  have b1 : m_bs T (m_mk S) = i := by rw [← hT, p_bs_sgh, p_bs_sof, p_bs_sbs]; exact va_upE
  have o1 : m_of T (m_mk S) = o := by rw [← hT, p_of_sgh, p_of_sof]; exact updE
  have g1 : m_gr T (m_mk S) = m_gr S i := by rw [← hT, p_gr_sgh]; exact va_upE
  have d1 : m_dp T (m_mk S) = m_dp S i + 1 := by rw [← hT, p_dp_sgh]; exact va_upE
  have s1 : m_sh T (m_mk S) = m_sh S i + o := by rw [← hT, p_sh_sgh]; exact updE
  obtain ⟨v1, v2, v3, v4, v5, v6, v7, v8⟩ := (AG i hi).1
  have kg := (AG _ w4).1.1
  refine ⟨by omega, by omega, by omega, by omega, by rw [g1, kg]; omega, fun z => by omega, fun z => by omega, fun z => by omega, fun z => absurd k1 z, fun _ => ?_⟩
  rw [b1, v1, v4, v5, v6, g1, d1, s1, o1, kg]
  exact ⟨by omega, n9, n10, rfl, rfl, rfl, hk8⟩
theorem c_newN {h' : ac_H} {q s1 r s n : Nat} (W : m_wf S) (hs : s ≤ 7) (hn : n ≤ 24) (hq : h q = none) (hs1 : h s1 = none) (e1 : h' q = some (.inl (6, [.int (nI s), .ref s1, .null]))) (e2 : h' s1 = some (.inr (2, n, .inr (.inl (fun _ => 0))))) : c_it h' (va_up ad (m_mk S) q) (c_ow h ow (m_mk S)) (m_sgh (m_fresh S r s n) (m_mk S) (m_mk S) 0 0) (m_mk S) := by
  have k1 : m_kd (m_sgh (m_fresh S r s n) (m_mk S) (m_mk S) 0 0) (m_mk S) = s := by rw [p_kd_sgh]; exact fr_kd
  have l1 : m_ln (m_sgh (m_fresh S r s n) (m_mk S) (m_mk S) 0 0) (m_mk S) = n := by rw [p_ln_sgh]; exact fr_ln
  have o1 : m_lo (m_sgh (m_fresh S r s n) (m_mk S) (m_mk S) 0 0) (6 * m_mk S) = false := by rw [p_lo_sgh]; exact fr_lo0
  have t1 : ∀ e, e < 24 → m_st (m_sgh (m_fresh S r s n) (m_mk S) (m_mk S) 0 0) (24 * m_mk S + e) = m_fv s e := fun e he => by rw [p_st_sgh]; exact fr_st he
  have q1 : va_up ad (m_mk S) q (m_mk S) = q := va_upE
  unfold c_it
  rw [k1, l1, o1, q1]
  refine ⟨c_owN hq, fun _ z => (by cases z), fun _ _ => ⟨s1, _, e1, c_owN hs1, e2, fun e he => ?_⟩, fun z => by omega, fun z => by omega, fun z => by omega, fun z => by omega⟩
  rw [t1 e (by omega)]
  exact (if_neg (by omega)).symm
theorem c_newI {h' : ac_H} {q s1 r n : Nat} (W : m_wf S) (hn : n ≤ 24) (hq : h q = none) (hs1 : h s1 = none) (e1 : h' q = some (.inl (6, [.int (nI 8), .null, .ref s1]))) (e2 : h' s1 = some (.inr (3, n, .inr (.inr (fun _ => none))))) : c_it h' (va_up ad (m_mk S) q) (c_ow h ow (m_mk S)) (m_sgh (m_fresh S r 8 n) (m_mk S) (m_mk S) 0 0) (m_mk S) := by
  have k1 : m_kd (m_sgh (m_fresh S r 8 n) (m_mk S) (m_mk S) 0 0) (m_mk S) = 8 := by rw [p_kd_sgh]; exact fr_kd
  have l1 : m_ln (m_sgh (m_fresh S r 8 n) (m_mk S) (m_mk S) 0 0) (m_mk S) = n := by rw [p_ln_sgh]; exact fr_ln
  have o1 : m_lo (m_sgh (m_fresh S r 8 n) (m_mk S) (m_mk S) 0 0) (6 * m_mk S) = false := by rw [p_lo_sgh]; exact fr_lo0
  have t1 : ∀ e, e < 24 → m_st (m_sgh (m_fresh S r 8 n) (m_mk S) (m_mk S) 0 0) (24 * m_mk S + e) = m_fv 8 e := fun e he => by rw [p_st_sgh]; exact fr_st he
  have q1 : va_up ad (m_mk S) q (m_mk S) = q := va_upE
  unfold c_it
  rw [k1, l1, o1, q1]
  refine ⟨c_owN hq, fun _ z => (by cases z), fun z => by omega, fun _ _ => ⟨s1, _, e1, c_owN hs1, e2, fun e he => ?_⟩, fun z => by omega, fun z => by omega, fun z => by omega⟩
  rw [t1 e (by omega), show m_fv 8 e = -1 from if_pos (Or.inl rfl), show m_dl (-1) = none by decide]
  rfl
theorem c_newR {h' : ac_H} {q r : Nat} (W : m_wf S) (hq : h q = none) (e1 : h' q = some (.inl (5, [.long 0, .null]))) : c_it h' (va_up ad (m_mk S) q) (c_ow h ow (m_mk S)) (m_sgh (m_fresh S r 10 0) (m_mk S) (m_mk S) 0 0) (m_mk S) := by
  have k1 : m_kd (m_sgh (m_fresh S r 10 0) (m_mk S) (m_mk S) 0 0) (m_mk S) = 10 := by rw [p_kd_sgh]; exact fr_kd
  have t0 : m_st (m_sgh (m_fresh S r 10 0) (m_mk S) (m_mk S) 0 0) (24 * m_mk S) = 0 := by rw [p_st_sgh]; exact (fr_st0 (r := r) (k := 10) (n := 0)).trans (by decide)
  have t1 : m_st (m_sgh (m_fresh S r 10 0) (m_mk S) (m_mk S) 0 0) (24 * m_mk S + 1) = -1 := by rw [p_st_sgh]; exact (fr_st (r := r) (k := 10) (n := 0) (by omega)).trans (by decide)
  have q1 : va_up ad (m_mk S) q (m_mk S) = q := va_upE
  unfold c_it
  rw [k1, q1]
  refine ⟨c_owN hq, fun z => by omega, fun z => by omega, fun z => by omega, fun z => by omega, fun _ => ?_, fun z => by omega⟩
  rw [t0, t1, show m_dl (-1) = none by decide]
  exact e1
theorem c_newG {h' : ac_H} {q s1 r a c : Nat} (W : m_wf S) (ha : a ≤ 6) (hc : c ≤ 4) (hq : h q = none) (hs1 : ∀ j, j ≤ a → h (s1 + j) = none) (e1 : h' q = some (.inl (4, [.ref s1]))) (e2 : h' s1 = some (.inr (4, a, .inr (.inr (fun j => if j < a then some (s1 + 1 + j) else none))))) (e3 : ∀ j, j < a → h' (s1 + 1 + j) = some (.inr (0, c, .inl (fun _ => 0)))) : c_it h' (va_up ad (m_mk S) q) (c_ow h ow (m_mk S)) (m_sgh (m_swd (m_fresh S r 9 a) (m_mk S) c) (m_mk S) (m_mk S) 0 0) (m_mk S) := by
  have k1 : m_kd (m_sgh (m_swd (m_fresh S r 9 a) (m_mk S) c) (m_mk S) (m_mk S) 0 0) (m_mk S) = 9 := by rw [p_kd_sgh, p_kd_swd]; exact fr_kd
  have l1 : m_ln (m_sgh (m_swd (m_fresh S r 9 a) (m_mk S) c) (m_mk S) (m_mk S) 0 0) (m_mk S) = a := by rw [p_ln_sgh, p_ln_swd]; exact fr_ln
  have c1 : m_wd (m_sgh (m_swd (m_fresh S r 9 a) (m_mk S) c) (m_mk S) (m_mk S) 0 0) (m_mk S) = c := by rw [p_wd_sgh, p_wd_swd]; exact va_upE
  have o1 : ∀ t, t < 6 → m_lo (m_sgh (m_swd (m_fresh S r 9 a) (m_mk S) c) (m_mk S) (m_mk S) 0 0) (6 * m_mk S + t) = false := fun t ht => by rw [p_lo_sgh, p_lo_swd]; exact fr_lo ht
  have t1 : ∀ e, e < 24 → m_st (m_sgh (m_swd (m_fresh S r 9 a) (m_mk S) c) (m_mk S) (m_mk S) 0 0) (24 * m_mk S + e) = m_fv 9 e := fun e he => by rw [p_st_sgh, p_st_swd]; exact fr_st he
  have q1 : va_up ad (m_mk S) q (m_mk S) = q := va_upE
  unfold c_it
  rw [k1, l1, c1, q1]
  refine ⟨c_owN hq, fun z => by omega, fun z => by omega, fun z => by omega, fun _ => ⟨s1, _, e1, c_owN (hs1 0 (by omega)), e2, fun t ht => ?_⟩, fun z => by omega, fun z => by omega⟩
  rw [o1 t (by omega)]
  refine ⟨fun z => (by cases z), fun _ => ⟨if_pos ht, c_owN (by rw [show s1 + 1 + t = s1 + (1 + t) by omega]; exact hs1 (1 + t) (by omega)), _, e3 t ht, fun u hu => ?_⟩⟩
  have hb : c * t ≤ c * 5 := Nat.mul_le_mul_left _ (by omega)
  rw [t1 _ (by omega), show m_fv 9 (c * t + u) = 0 from if_neg (by omega)]
  rfl
theorem c_newW {h' : ac_H} {q r i : Nat} {o : Int32} (W : m_wf S) (hi : i < m_mk S) (hq : h q = none) (e1 : h' q = some (.inl (7, [.ref (ad (m_gr S i)), .int (m_sh S i + o), .int (nI (m_dp S i + 1))]))) : c_it h' (va_up ad (m_mk S) q) (c_ow h ow (m_mk S)) (m_sgh (m_sof (m_sbs (m_fresh S r 11 0) (m_mk S) i) (m_mk S) o) (m_mk S) (m_gr S i) (m_dp S i + 1) (m_sh S i + o)) (m_mk S) := by
  generalize hT : m_sgh (m_sof (m_sbs (m_fresh S r 11 0) (m_mk S) i) (m_mk S) o) (m_mk S) (m_gr S i) (m_dp S i + 1) (m_sh S i + o) = T
  have k1 : m_kd T (m_mk S) = 11 := by rw [← hT, p_kd_sgh, p_kd_sof, p_kd_sbs]; exact fr_kd
  have g1 : m_gr T (m_mk S) = m_gr S i := by rw [← hT, p_gr_sgh]; exact va_upE
  have d1 : m_dp T (m_mk S) = m_dp S i + 1 := by rw [← hT, p_dp_sgh]; exact va_upE
  have s1 : m_sh T (m_mk S) = m_sh S i + o := by rw [← hT, p_sh_sgh]; exact updE
  have q1 : va_up ad (m_mk S) q (m_mk S) = q := va_upE
  have hg := m_wg W hi
  have q2 : va_up ad (m_mk S) q (m_gr S i) = ad (m_gr S i) := va_upN (by omega)
  unfold c_it
  rw [k1, q1]
  refine ⟨c_owN hq, fun z => by omega, fun z => by omega, fun z => by omega, fun z => by omega, fun z => by omega, fun _ => ?_⟩
  rw [g1, d1, s1, q2]
  exact e1
end CLD
