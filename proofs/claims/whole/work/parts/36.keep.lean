/-! ===== every call keeps the state sound; which exceptions it knows ===== -/
section VV
variable {S : m_S}
theorem wf_mod {S' : m_S} (W : m_wf S) (e1 : m_rg S' = m_rg S) (e2 : m_mk S' = m_mk S) (e3 : m_kd S' = m_kd S) (e4 : m_wd S' = m_wd S) (e5 : m_bs S' = m_bs S) (e6 : m_of S' = m_of S) (e7 : m_gr S' = m_gr S) (e8 : m_dp S' = m_dp S) (e9 : m_sh S' = m_sh S) (l1 : ∀ i, i < m_mk S → m_ln S' i ≤ 24 ∧ (m_kd S i = 9 → m_ln S' i ≤ 6)) (s8 : ∀ i e, i < m_mk S → m_kd S i = 8 → e < 24 → m_lk S (m_st S' (24 * i + e))) (s10 : ∀ i, i < m_mk S → m_kd S i = 10 → m_st S' (24 * i + 1) = m_st S (24 * i + 1)) : m_wf S' := by
  have lk : ∀ v, m_lk S v → m_lk S' v := fun v L => ⟨L.1, fun j ej => by rw [e2]; exact L.2 j ej⟩
  refine ⟨by rw [e2]; exact W.1, by rw [e1, e2]; exact W.2.1, fun i hi => ?_⟩
  rw [e2] at hi
  obtain ⟨w1, w2, w3, w4, w5, w6, w7, w8, w9, w10⟩ := W.2.2 i hi
  unfold m_wi
  rw [e3, e4, e5, e6, e7, e8, e9, e2]
  refine ⟨w1, (l1 i hi).1, w3, w4, w5, fun k9 => ⟨(l1 i hi).2 k9, (w6 k9).2⟩, fun k8 e he => lk _ (s8 i e hi k8 he), fun k10 => ?_, w9, w10⟩
  rw [s10 i hi k10]
  exact ⟨lk _ (w8 k10).1, (w8 k10).2⟩
theorem wf_slo {q : Nat} {b : Bool} (W : m_wf S) : m_wf (m_slo S q b) := wf_mod W rfl rfl rfl rfl rfl rfl rfl rfl rfl (fun i hi => ⟨(W.2.2 i hi).2.1, fun k9 => ((W.2.2 i hi).2.2.2.2.2.1 k9).1⟩) (fun i e hi k8 he => (W.2.2 i hi).2.2.2.2.2.2.1 k8 e he) (fun i hi k10 => rfl)
theorem wf_rS {i n : Nat} (W : m_wf S) (hk : m_kd S i ≤ 8) (hn : n ≤ 24) : m_wf (c_rS S i n) := by
  refine wf_mod W c_rrg c_rmk ?_ ?_ ?_ ?_ ?_ ?_ ?_ (fun j hj => ?_) (fun j e hj k8 he => ?_) (fun j hj k10 => ?_)
  · unfold c_rS; rw [p_kd_sln, p_kd_sstF]
  · unfold c_rS; rw [p_wd_sln, p_wd_sstF]
  · unfold c_rS; rw [p_bs_sln, p_bs_sstF]
  · unfold c_rS; rw [p_of_sln, p_of_sstF]
  · unfold c_rS; rw [p_gr_sln, p_gr_sstF]
  · unfold c_rS; rw [p_dp_sln, p_dp_sstF]
  · unfold c_rS; rw [p_sh_sln, p_sh_sstF]
  · obtain ⟨w1, w2, w3, w4, w5, w6, w7, w8, w9, w10⟩ := W.2.2 j hj
    by_cases c : j = i
    · subst c
      rw [c_rln]
      exact ⟨hn, fun z => by omega⟩
    · rw [(c_rag (S := S) (n := n) c).2.1]
      exact ⟨w2, fun k9 => (w6 k9).1⟩
  · obtain ⟨w1, w2, w3, w4, w5, w6, w7, w8, w9, w10⟩ := W.2.2 j hj
    by_cases c : j = i
    · subst c
      rw [c_rst he]
      split
      · exact w7 k8 e he
      · exact m_lkN
    · rw [(c_rag (S := S) (n := n) c).2.2.2.2.2.2.2 e he]
      exact w7 k8 e he
  · have c : j ≠ i := fun z => by rw [z] at k10; omega
    exact (c_rag (S := S) (n := n) c).2.2.2.2.2.2.2 1 (by omega)
theorem m_lkL {o : Option Nat} (W : m_wf S) (ho : ∀ j, o = some j → j < m_mk S) : m_lk S (m_lv o) := by
  have h5 : ∀ j, o = some j → j < 512 := fun j e => Nat.lt_of_lt_of_le (ho j e) W.1
  refine ⟨by rw [m_dlv h5], fun j e => ?_⟩
  rw [m_dlv h5] at e
  exact ho j e
theorem V_make {r s n : Int32} (W : m_wf S) (hm : m_mk S < 512) : m_app (fun x' _ S' => (x' = 7 ∨ x' = 0 ∨ x' = 4) ∧ m_wf S' ∧ m_mk S' ≤ m_mk S + 1) (f_make S r s n) := by
  unfold f_make
  split
  · exact ⟨Or.inr (Or.inl rfl), W, Nat.le_succ _⟩
  rename_i q
  split
  · exact ⟨Or.inr (Or.inr rfl), W, Nat.le_succ _⟩
  rename_i q4
  obtain ⟨t, ht, rfl⟩ := m_badN (i := s) (z := 9) (by decide) (fun z => q (Or.inr (Or.inl z)))
  obtain ⟨u, hu, rfl⟩ := nI_of q4
  have hu24 : u ≤ 24 := by
    have : ¬ 24 < u := fun z => q (Or.inr (Or.inr (nI_lt (a := 24) z hu)))
    omega
  rw [nI_clamp (n := t) (by omega), nI_clamp hu]
  exact ⟨Or.inl rfl, wf_v W hm (Or.inl (by omega)) hu24, Nat.le_refl _⟩
theorem V_grid {r a b : Int32} (W : m_wf S) (hm : m_mk S < 512) : m_app (fun x' _ S' => (x' = 7 ∨ x' = 0 ∨ x' = 4) ∧ m_wf S' ∧ m_mk S' ≤ m_mk S + 1) (f_grid S r a b) := by
  unfold f_grid
  split
  · exact ⟨Or.inr (Or.inl rfl), W, Nat.le_succ _⟩
  rename_i q
  split
  · exact ⟨Or.inr (Or.inr rfl), W, Nat.le_succ _⟩
  rename_i q4
  obtain ⟨t, ht, rfl⟩ := nI_of (fun z => q4 (Or.inl z))
  obtain ⟨u, hu, rfl⟩ := nI_of (fun z => q4 (Or.inr z))
  have ht6 : t ≤ 6 := by
    have : ¬ 6 < t := fun z => q (Or.inr (Or.inl (nI_lt (a := 6) z ht)))
    omega
  have hu4 : u ≤ 4 := by
    have : ¬ 4 < u := fun z => q (Or.inr (Or.inr (nI_lt (a := 4) z hu)))
    omega
  rw [nI_clamp ht, nI_clamp hu]
  exact ⟨Or.inl rfl, wf_g W hm ht6 hu4, Nat.le_refl _⟩
theorem V_record {r : Int32} (W : m_wf S) (hm : m_mk S < 512) : m_app (fun x' _ S' => (x' = 7 ∨ x' = 0) ∧ m_wf S' ∧ m_mk S' ≤ m_mk S + 1) (f_record S r) := by
  unfold f_record
  split
  · exact ⟨Or.inr rfl, W, Nat.le_succ _⟩
  · exact ⟨Or.inl rfl, wf_v W hm (Or.inr rfl) (by omega), Nat.le_refl _⟩
theorem V_window {r b o : Int32} (W : m_wf S) (hm : m_mk S < 512) : m_app (fun x' _ S' => (x' = 7 ∨ x' = 0 ∨ x' = 1 ∨ x' = 2 ∨ x' = 5) ∧ m_wf S' ∧ m_mk S' ≤ m_mk S + 1) (f_window S r b o) := by
  unfold f_window
  split
  · exact ⟨Or.inr (Or.inl rfl), W, Nat.le_succ _⟩
  rename_i q
  obtain ⟨k, hk, rfl⟩ := m_badN (i := b) (z := 8) (by decide) (fun z => q (Or.inr z))
  rw [nI_clamp (n := k) (by omega)]
  cases e : m_rg S k with
  | none => exact ⟨Or.inr (Or.inr (Or.inl rfl)), W, Nat.le_succ _⟩
  | some i =>
    show m_app _ (i_window S _ o i)
    have hi := W.2.1 k i hk e
    unfold i_window
    split
    · exact ⟨Or.inr (Or.inr (Or.inr (Or.inl rfl))), W, Nat.le_succ _⟩
    rename_i c
    split
    · exact ⟨Or.inr (Or.inr (Or.inr (Or.inr rfl))), W, Nat.le_succ _⟩
    · exact ⟨Or.inl rfl, wf_w W hm hi (fun z => c (Or.inl z)) (fun z => c (Or.inr z)) (by omega), Nat.le_refl _⟩
theorem V_copy {r f : Int32} (W : m_wf S) : m_app (fun x' a S' => (x' = 7 ∨ x' = 0) ∧ m_wf S' ∧ m_mk S' ≤ m_mk S + 1 ∧ (a = 0 ∨ a = 1)) (f_copy S r f) := by
  unfold f_copy
  split
  · exact ⟨Or.inr rfl, W, Nat.le_succ _, Or.inl rfl⟩
  rename_i q
  refine ⟨Or.inl rfl, wf_srg W (fun j e => ?_), Nat.le_succ _, ?_⟩
  · unfold m_cf at e
    split at e
    · cases e
    rename_i q5
    obtain ⟨t, ht, rfl⟩ := m_badN (i := f) (z := 8) (by decide) (fun z => z.elim q5 (fun z => q (Or.inr (Or.inr ((m_bad7.mpr (Or.inr z)).elim (fun y => absurd y q5) id)))))
    rw [nI_clamp (n := t) (by omega)] at e
    exact W.2.1 t j ht e
  · show (if _ then (1 : Int32) else 0) = 0 ∨ (if _ then (1 : Int32) else 0) = 1
    split
    · exact Or.inr rfl
    · exact Or.inl rfl
theorem V_lose {r w : Int32} (W : m_wf S) : m_app (fun x' _ S' => (x' = 7 ∨ x' = 0 ∨ x' = 1 ∨ x' = 2 ∨ x' = 3) ∧ m_wf S' ∧ m_mk S' ≤ m_mk S + 1) (f_lose S r w) := by
  unfold f_lose
  split
  · exact ⟨Or.inr (Or.inl rfl), W, Nat.le_succ _⟩
  cases m_rg S r.toNatClampNeg with
  | none => exact ⟨Or.inr (Or.inr (Or.inl rfl)), W, Nat.le_succ _⟩
  | some i =>
    show m_app _ (i_lose S w i)
    unfold i_lose
    split
    · exact ⟨Or.inr (Or.inr (Or.inr (Or.inl rfl))), W, Nat.le_succ _⟩
    · split
      · split
        · exact ⟨Or.inr (Or.inr (Or.inr (Or.inr rfl))), W, Nat.le_succ _⟩
        · split
          · exact ⟨Or.inr (Or.inr (Or.inl rfl)), W, Nat.le_succ _⟩
          · exact ⟨Or.inl rfl, wf_slo W, Nat.le_succ _⟩
      · split
        · exact ⟨Or.inr (Or.inr (Or.inl rfl)), W, Nat.le_succ _⟩
        · exact ⟨Or.inl rfl, wf_slo W, Nat.le_succ _⟩
theorem V_resize {r n : Int32} (W : m_wf S) : m_app (fun x' _ S' => (x' = 7 ∨ x' = 0 ∨ x' = 1 ∨ x' = 2 ∨ x' = 4) ∧ m_wf S' ∧ m_mk S' ≤ m_mk S + 1) (f_resize S r n) := by
  unfold f_resize
  split
  · exact ⟨Or.inr (Or.inl rfl), W, Nat.le_succ _⟩
  rename_i q
  cases m_rg S r.toNatClampNeg with
  | none => exact ⟨Or.inr (Or.inr (Or.inl rfl)), W, Nat.le_succ _⟩
  | some i =>
    show m_app _ (i_resize S n i)
    unfold i_resize
    split
    · exact ⟨Or.inr (Or.inr (Or.inr (Or.inl rfl))), W, Nat.le_succ _⟩
    rename_i k9
    split
    · exact ⟨Or.inr (Or.inr (Or.inr (Or.inr rfl))), W, Nat.le_succ _⟩
    rename_i q4
    split
    · exact ⟨Or.inr (Or.inr (Or.inl rfl)), W, Nat.le_succ _⟩
    · obtain ⟨u, hu, rfl⟩ := nI_of q4
      have hu24 : u ≤ 24 := by
        have : ¬ 24 < u := fun z => q (Or.inr (nI_lt (a := 24) z hu))
        omega
      rw [nI_clamp hu]
      have hw := wf_rS (i := i) (n := u) W (by omega) hu24
      exact ⟨Or.inl rfl, hw, Nat.le_succ _⟩
theorem V_size {r : Int32} (W : m_wf S) : m_app (fun x' _ S' => (x' = 7 ∨ x' = 0 ∨ x' = 1 ∨ x' = 2) ∧ m_wf S' ∧ m_mk S' ≤ m_mk S + 1) (f_size S r) := by
  unfold f_size
  split
  · exact ⟨Or.inr (Or.inl rfl), W, Nat.le_succ _⟩
  cases m_rg S r.toNatClampNeg with
  | none => exact ⟨Or.inr (Or.inr (Or.inl rfl)), W, Nat.le_succ _⟩
  | some i =>
    show m_app _ (i_size S i)
    unfold i_size
    split
    · exact ⟨Or.inr (Or.inr (Or.inr rfl)), W, Nat.le_succ _⟩
    · split
      · exact ⟨Or.inr (Or.inr (Or.inl rfl)), W, Nat.le_succ _⟩
      · exact ⟨Or.inl rfl, W, Nat.le_succ _⟩
theorem v_pl {i : Nat} {ix : Int32} (q : ¬ (m_pl S i ix).1 = 7) {Y : Prop} : (m_pl S i ix).1 = 7 ∨ (m_pl S i ix).1 = 0 ∨ (m_pl S i ix).1 = 1 ∨ (m_pl S i ix).1 = 2 ∨ (m_pl S i ix).1 = 3 := by
  rcases m_pl3 (S := S) (i := i) (ix := ix) with z | z | z
  · exact Or.inr (Or.inr (Or.inl z))
  · exact Or.inr (Or.inr (Or.inr (Or.inr z)))
  · exact absurd z q
theorem V_take {r ix : Int32} (W : m_wf S) : m_app (fun x' _ S' => (x' = 7 ∨ x' = 0 ∨ x' = 1 ∨ x' = 2 ∨ x' = 3) ∧ m_wf S' ∧ m_mk S' ≤ m_mk S + 1) (f_take S r ix) := by
  unfold f_take
  split
  · exact ⟨Or.inr (Or.inl rfl), W, Nat.le_succ _⟩
  cases m_rg S r.toNatClampNeg with
  | none => exact ⟨Or.inr (Or.inr (Or.inl rfl)), W, Nat.le_succ _⟩
  | some i =>
    show m_app _ (i_take S ix i)
    unfold i_take
    split
    · exact ⟨Or.inr (Or.inr (Or.inr (Or.inl rfl))), W, Nat.le_succ _⟩
    · split
      · exact ⟨Or.inl rfl, W, Nat.le_succ _⟩
      · rename_i q
        exact ⟨v_pl (Y := True) q, W, Nat.le_succ _⟩
theorem V_put {r ix : Int32} {v : Int64} (W : m_wf S) : m_app (fun x' _ S' => (x' = 7 ∨ x' = 0 ∨ x' = 1 ∨ x' = 2 ∨ x' = 3) ∧ m_wf S' ∧ m_mk S' ≤ m_mk S + 1) (f_put S r ix v) := by
  unfold f_put
  split
  · exact ⟨Or.inr (Or.inl rfl), W, Nat.le_succ _⟩
  rename_i q0
  obtain ⟨k, hk, rfl⟩ := m_badN (i := r) (z := 8) (by decide) q0
  rw [nI_clamp (n := k) (by omega)]
  cases e : m_rg S k with
  | none => exact ⟨Or.inr (Or.inr (Or.inl rfl)), W, Nat.le_succ _⟩
  | some i =>
    have hi := W.2.1 k i hk e
    show m_app _ (i_put S ix v i)
    unfold i_put
    split
    · exact ⟨Or.inr (Or.inr (Or.inr (Or.inl rfl))), W, Nat.le_succ _⟩
    · split
      · rename_i c7 q
        obtain ⟨p1, p2, p3⟩ := m_pl7 W hi q
        have h24 := (W.2.2 _ (m_wg W hi)).2.1
        exact ⟨Or.inl rfl, wf_sst7 W (by omega) (by omega), Nat.le_succ _⟩
      · rename_i q
        exact ⟨v_pl (Y := True) q, W, Nat.le_succ _⟩
theorem V_cell {r w c : Int32} (W : m_wf S) : m_app (fun x' _ S' => (x' = 7 ∨ x' = 0 ∨ x' = 1 ∨ x' = 2 ∨ x' = 3) ∧ m_wf S' ∧ m_mk S' ≤ m_mk S + 1) (f_cell S r w c) := by
  unfold f_cell
  split
  · exact ⟨Or.inr (Or.inl rfl), W, Nat.le_succ _⟩
  cases m_rg S r.toNatClampNeg with
  | none => exact ⟨Or.inr (Or.inr (Or.inl rfl)), W, Nat.le_succ _⟩
  | some i =>
    show m_app _ (i_cell S w c i)
    unfold i_cell
    split
    · exact ⟨Or.inr (Or.inr (Or.inr (Or.inl rfl))), W, Nat.le_succ _⟩
    · split
      · exact ⟨Or.inr (Or.inr (Or.inr (Or.inr rfl))), W, Nat.le_succ _⟩
      · split
        · exact ⟨Or.inr (Or.inr (Or.inl rfl)), W, Nat.le_succ _⟩
        · split
          · exact ⟨Or.inr (Or.inr (Or.inr (Or.inr rfl))), W, Nat.le_succ _⟩
          · exact ⟨Or.inl rfl, W, Nat.le_succ _⟩
theorem V_setCell {r w c v d : Int32} (W : m_wf S) : m_app (fun x' _ S' => (x' = 7 ∨ x' = 0 ∨ x' = 1 ∨ x' = 2 ∨ x' = 3 ∨ x' = 6) ∧ m_wf S' ∧ m_mk S' ≤ m_mk S + 1) (f_setCell S r w c v d) := by
  unfold f_setCell
  split
  · exact ⟨Or.inr (Or.inl rfl), W, Nat.le_succ _⟩
  rename_i q0
  obtain ⟨k, hk, rfl⟩ := m_badN (i := r) (z := 8) (by decide) q0
  rw [nI_clamp (n := k) (by omega)]
  cases e : m_rg S k with
  | none => exact ⟨Or.inr (Or.inr (Or.inl rfl)), W, Nat.le_succ _⟩
  | some i =>
    have hi := W.2.1 k i hk e
    show m_app _ (i_setCell S w c v d i)
    unfold i_setCell
    split
    · exact ⟨Or.inr (Or.inr (Or.inr (Or.inl rfl))), W, Nat.le_succ _⟩
    rename_i k9
    split
    · exact ⟨Or.inr (Or.inr (Or.inr (Or.inr (Or.inl rfl)))), W, Nat.le_succ _⟩
    rename_i b1
    split
    · exact ⟨Or.inr (Or.inr (Or.inr (Or.inr (Or.inr rfl)))), W, Nat.le_succ _⟩
    split
    · exact ⟨Or.inr (Or.inr (Or.inl rfl)), W, Nat.le_succ _⟩
    split
    · exact ⟨Or.inr (Or.inr (Or.inr (Or.inr (Or.inl rfl)))), W, Nat.le_succ _⟩
    rename_i b2
    have k9' : m_kd S i = 9 := Classical.byContradiction k9
    have hw := (W.2.2 i hi).2.2.2.2.2.1 k9'
    obtain ⟨t, ht, rfl⟩ := m_badN (i := w) (by omega) b1
    obtain ⟨u, hu, rfl⟩ := m_badN (i := c) (by omega) b2
    rw [nI_clamp (n := t) (by omega), nI_clamp (n := u) (by omega)]
    exact ⟨Or.inl rfl, wf_sst W (m_gcell W hi k9' ht hu) (fun z => by omega) (fun z => by omega), Nat.le_succ _⟩
theorem V_refer {r ix f : Int32} (W : m_wf S) : m_app (fun x' _ S' => (x' = 7 ∨ x' = 0 ∨ x' = 1 ∨ x' = 2 ∨ x' = 3) ∧ m_wf S' ∧ m_mk S' ≤ m_mk S + 1) (f_refer S r ix f) := by
  unfold f_refer
  split
  · exact ⟨Or.inr (Or.inl rfl), W, Nat.le_succ _⟩
  rename_i q0
  obtain ⟨k, hk, rfl⟩ := m_badN (i := r) (z := 8) (by decide) (fun z => q0 (Or.inl z))
  obtain ⟨t, ht, rfl⟩ := m_badN (i := f) (z := 8) (by decide) (fun z => q0 (Or.inr z))
  rw [nI_clamp (n := k) (by omega), nI_clamp (n := t) (by omega)]
  cases e : m_rg S k with
  | none => exact ⟨Or.inr (Or.inr (Or.inl rfl)), W, Nat.le_succ _⟩
  | some i =>
    have hi := W.2.1 k i hk e
    show m_app _ (i_refer S ix t i)
    unfold i_refer
    split
    · exact ⟨Or.inr (Or.inr (Or.inr (Or.inl rfl))), W, Nat.le_succ _⟩
    rename_i c8
    have c8' : m_kd S (m_gr S i) = 8 := Classical.byContradiction c8
    split
    · rename_i q
      obtain ⟨p1, p2, p3⟩ := m_pl7 W hi q
      have h24 := (W.2.2 _ (m_wg W hi)).2.1
      exact ⟨Or.inl rfl, wf_sst W (by omega) (fun _ => m_lkL W (fun j ej => W.2.1 t j ht ej)) (fun z => by omega), Nat.le_succ _⟩
    · rename_i q
      exact ⟨v_pl (Y := True) q, W, Nat.le_succ _⟩
theorem V_fetch {t r ix : Int32} (W : m_wf S) : m_app (fun x' _ S' => (x' = 7 ∨ x' = 0 ∨ x' = 1 ∨ x' = 2 ∨ x' = 3) ∧ m_wf S' ∧ m_mk S' ≤ m_mk S + 1) (f_fetch S t r ix) := by
  unfold f_fetch
  split
  · exact ⟨Or.inr (Or.inl rfl), W, Nat.le_succ _⟩
  rename_i q0
  obtain ⟨k, hk, rfl⟩ := m_badN (i := r) (z := 8) (by decide) (fun z => q0 (Or.inr z))
  rw [nI_clamp (n := k) (by omega)]
  cases e : m_rg S k with
  | none => exact ⟨Or.inr (Or.inr (Or.inl rfl)), W, Nat.le_succ _⟩
  | some i =>
    have hi := W.2.1 k i hk e
    show m_app _ (i_fetch S _ ix i)
    unfold i_fetch
    split
    · exact ⟨Or.inr (Or.inr (Or.inr (Or.inl rfl))), W, Nat.le_succ _⟩
    rename_i c8
    have c8' : m_kd S (m_gr S i) = 8 := Classical.byContradiction c8
    split
    · rename_i q
      obtain ⟨p1, p2, p3⟩ := m_pl7 W hi q
      have h24 := (W.2.2 _ (m_wg W hi)).2.1
      have hL := (W.2.2 _ (m_wg W hi)).2.2.2.2.2.2.1 c8' _ (show (m_pl S i ix).2 < 24 by omega)
      exact ⟨Or.inl rfl, wf_srg W hL.2, Nat.le_succ _⟩
    · rename_i q
      exact ⟨v_pl (Y := True) q, W, Nat.le_succ _⟩
theorem V_link {r t : Int32} (W : m_wf S) : m_app (fun x' _ S' => (x' = 7 ∨ x' = 0 ∨ x' = 2 ∨ x' = 1) ∧ m_wf S' ∧ m_mk S' ≤ m_mk S + 1) (f_link S r t) := by
  unfold f_link
  split
  · exact ⟨Or.inr (Or.inl rfl), W, Nat.le_succ _⟩
  rename_i q0
  obtain ⟨k, hk, rfl⟩ := m_badN (i := r) (z := 8) (by decide) (fun z => q0 (Or.inl z))
  obtain ⟨t, ht, rfl⟩ := m_badN (i := t) (z := 8) (by decide) (fun z => q0 (Or.inr z))
  rw [nI_clamp (n := k) (by omega), nI_clamp (n := t) (by omega)]
  split
  · rename_i hn
    unfold m_rc
    cases e : m_rg S k with
    | none => exact ⟨Or.inr (Or.inr (Or.inr rfl)), W, Nat.le_succ _⟩
    | some i =>
      have hi := W.2.1 k i hk e
      show m_app _ (if m_kd S i = 10 then (7, (), m_sst S (24 * i + 1) (m_lv (m_rg S t))) else (2, (), S))
      split
      · rename_i c10
        refine ⟨Or.inl rfl, wf_sst W (by omega) (fun z => by omega) (fun _ _ => ⟨m_lkL W (fun j ej => W.2.1 t j ht ej), fun j ej => ?_⟩), Nat.le_succ _⟩
        rw [m_dlv (m_wr W ht)] at ej
        rw [ej] at hn
        have hn2 : (m_kd S j == 10) = true := hn
        simpa using hn2
      · exact ⟨Or.inr (Or.inr (Or.inl rfl)), W, Nat.le_succ _⟩
  · exact ⟨Or.inr (Or.inr (Or.inl rfl)), W, Nat.le_succ _⟩
theorem V_follow {t r : Int32} (W : m_wf S) : m_app (fun x' a S' => (x' = 7 ∨ x' = 0 ∨ x' = 2 ∨ x' = 1) ∧ m_wf S' ∧ m_mk S' ≤ m_mk S + 1 ∧ (a = 0 ∨ a = 1)) (f_follow S t r) := by
  unfold f_follow m_rc
  split
  · exact ⟨Or.inr (Or.inl rfl), W, Nat.le_succ _, Or.inl rfl⟩
  rename_i q0
  obtain ⟨k, hk, rfl⟩ := m_badN (i := r) (z := 8) (by decide) (fun z => q0 (Or.inr z))
  rw [nI_clamp (n := k) (by omega)]
  cases e : m_rg S k with
  | none => exact ⟨Or.inr (Or.inr (Or.inr rfl)), W, Nat.le_succ _, Or.inl rfl⟩
  | some i =>
    have hi := W.2.1 k i hk e
    show m_app _ (if m_kd S i = 10 then (7, m_no (m_dl (m_st S (24 * i + 1))), m_srg S _ (m_dl (m_st S (24 * i + 1)))) else (2, 0, S))
    split
    · rename_i c10
      refine ⟨Or.inl rfl, wf_srg W ((W.2.2 _ hi).2.2.2.2.2.2.2.1 c10).1.2, Nat.le_succ _, ?_⟩
      show m_no (m_dl (m_st S (24 * i + 1))) = 0 ∨ m_no (m_dl (m_st S (24 * i + 1))) = 1
      cases m_dl (m_st S (24 * i + 1)) with
      | none => exact Or.inr rfl
      | some _ => exact Or.inl rfl
    · exact ⟨Or.inr (Or.inr (Or.inl rfl)), W, Nat.le_succ _, Or.inl rfl⟩
theorem V_exchange {r : Int32} {v : Int64} (W : m_wf S) : m_app (fun x' _ S' => (x' = 7 ∨ x' = 0 ∨ x' = 2 ∨ x' = 1) ∧ m_wf S' ∧ m_mk S' ≤ m_mk S + 1) (f_exchange S r v) := by
  unfold f_exchange m_rc
  split
  · exact ⟨Or.inr (Or.inl rfl), W, Nat.le_succ _⟩
  cases m_rg S r.toNatClampNeg with
  | none => exact ⟨Or.inr (Or.inr (Or.inr rfl)), W, Nat.le_succ _⟩
  | some i =>
    show m_app _ (if m_kd S i = 10 then (7, m_st S (24 * i), m_sst S (24 * i) v) else (2, 0, S))
    split
    · rename_i c10
      have hw := wf_sst (g := i) (e := 0) (v := v) W (by omega) (fun z => by omega) (fun _ z => by omega)
      exact ⟨Or.inl rfl, hw, Nat.le_succ _⟩
    · exact ⟨Or.inr (Or.inr (Or.inl rfl)), W, Nat.le_succ _⟩
theorem V_total {r : Int32} (W : m_wf S) : m_app (fun x' _ S' => (x' = 7 ∨ x' = 0 ∨ x' = 2 ∨ x' = 1) ∧ m_wf S' ∧ m_mk S' ≤ m_mk S + 1) (f_total S r) := by
  unfold f_total m_rc
  split
  · exact ⟨Or.inr (Or.inl rfl), W, Nat.le_succ _⟩
  cases m_rg S r.toNatClampNeg with
  | none => exact ⟨Or.inr (Or.inr (Or.inr rfl)), W, Nat.le_succ _⟩
  | some i =>
    show m_app _ (if m_kd S i = 10 then (7, m_tot S 20 (some i) 0, S) else (2, 0, S))
    split
    · exact ⟨Or.inl rfl, W, Nat.le_succ _⟩
    · exact ⟨Or.inr (Or.inr (Or.inl rfl)), W, Nat.le_succ _⟩
theorem v_pl6 {i : Nat} {ix : Int32} (q : ¬ (m_pl S i ix).1 = 7) : (m_pl S i ix).1 = 7 ∨ (m_pl S i ix).1 = 0 ∨ (m_pl S i ix).1 = 1 ∨ (m_pl S i ix).1 = 2 ∨ (m_pl S i ix).1 = 3 ∨ (m_pl S i ix).1 = 6 := by
  rcases m_pl3 (S := S) (i := i) (ix := ix) with z | z | z
  · exact Or.inr (Or.inr (Or.inl z))
  · exact Or.inr (Or.inr (Or.inr (Or.inr (Or.inl z))))
  · exact absurd z q
theorem V_combine {op r ix o at' : Int32} (W : m_wf S) : m_app (fun x' _ S' => (x' = 7 ∨ x' = 0 ∨ x' = 1 ∨ x' = 2 ∨ x' = 3 ∨ x' = 6) ∧ m_wf S' ∧ m_mk S' ≤ m_mk S + 1) (f_combine S op r ix o at') := by
  unfold f_combine
  split
  · exact ⟨Or.inr (Or.inl rfl), W, Nat.le_succ _⟩
  rename_i q0
  obtain ⟨k, hk, rfl⟩ := m_badN (i := r) (z := 8) (by decide) (fun z => q0 (Or.inr (Or.inl z)))
  obtain ⟨t, ht, rfl⟩ := m_badN (i := o) (z := 8) (by decide) (fun z => q0 (Or.inr (Or.inr z)))
  rw [nI_clamp (n := k) (by omega), nI_clamp (n := t) (by omega)]
  cases e : m_rg S k with
  | none => exact ⟨Or.inr (Or.inr (Or.inl rfl)), W, Nat.le_succ _⟩
  | some i =>
    have hi := W.2.1 k i hk e
    show m_app _ (m_ns 0 S (m_rg S t) (fun j => j_combine S _ ix at' i j))
    cases e2 : m_rg S t with
    | none => exact ⟨Or.inr (Or.inr (Or.inl rfl)), W, Nat.le_succ _⟩
    | some j =>
      show m_app _ (j_combine S _ ix at' i j)
      unfold j_combine
      split
      · exact ⟨Or.inr (Or.inr (Or.inr (Or.inl rfl))), W, Nat.le_succ _⟩
      rename_i c5
      split
      · rename_i q
        exact ⟨v_pl6 q, W, Nat.le_succ _⟩
      rename_i q
      split
      · rename_i q2
        exact ⟨v_pl6 q2, W, Nat.le_succ _⟩
      split
      · exact ⟨Or.inr (Or.inr (Or.inr (Or.inr (Or.inr rfl)))), W, Nat.le_succ _⟩
      · obtain ⟨p1, p2, p3⟩ := m_pl7 W hi (Classical.byContradiction q)
        have h24 := (W.2.2 _ (m_wg W hi)).2.1
        exact ⟨Or.inl rfl, wf_sst7 W (by omega) (by omega), Nat.le_succ _⟩
theorem v_mv {i j : Nat} {ix at' : Int32} : ∀ (n d : Nat) (T : m_S), m_wf T → i < m_mk T → m_kd T (m_gr T i) ≤ 7 → ((m_mv i j ix at' n d T).1 = 7 ∨ (m_mv i j ix at' n d T).1 = 1 ∨ (m_mv i j ix at' n d T).1 = 3) ∧ m_wf (m_mv i j ix at' n d T).2 ∧ m_mk (m_mv i j ix at' n d T).2 = m_mk T := by
  intro n
  induction n with
  | zero => intro d T W _ _; exact ⟨Or.inl rfl, W, rfl⟩
  | succ n ih =>
    intro d T W hi hk
    unfold m_mv
    split
    · rename_i q
      exact ⟨(m_pl3 (S := T) (i := j) (ix := at' + nI d)).elim (fun z => Or.inr (Or.inl z)) (fun z => z.elim (fun z => Or.inr (Or.inr z)) Or.inl), W, rfl⟩
    · split
      · exact ⟨(m_pl3 (S := T) (i := i) (ix := ix + nI d)).elim (fun z => Or.inr (Or.inl z)) (fun z => z.elim (fun z => Or.inr (Or.inr z)) Or.inl), W, rfl⟩
      · rename_i q q2
        obtain ⟨p1, p2, p3⟩ := m_pl7 W hi (Classical.byContradiction q2)
        have h24 := (W.2.2 _ (m_wg W hi)).2.1
        exact ih (d + 1) _ (wf_sst7 W (by omega) hk) hi hk
theorem V_move {r ix o at' n : Int32} (W : m_wf S) : m_app (fun x' _ S' => (x' = 7 ∨ x' = 0 ∨ x' = 1 ∨ x' = 2 ∨ x' = 3) ∧ m_wf S' ∧ m_mk S' ≤ m_mk S + 1) (f_move S r ix o at' n) := by
  unfold f_move
  split
  · exact ⟨Or.inr (Or.inl rfl), W, Nat.le_succ _⟩
  rename_i q0
  obtain ⟨k, hk, rfl⟩ := m_badN (i := r) (z := 8) (by decide) (fun z => q0 (Or.inl z))
  obtain ⟨t, ht, rfl⟩ := m_badN (i := o) (z := 8) (by decide) (fun z => q0 (Or.inr (Or.inl z)))
  rw [nI_clamp (n := k) (by omega), nI_clamp (n := t) (by omega)]
  cases e : m_rg S k with
  | none => exact ⟨Or.inr (Or.inr (Or.inl rfl)), W, Nat.le_succ _⟩
  | some i =>
    have hi := W.2.1 k i hk e
    show m_app _ (m_ns 0 S (m_rg S t) (fun j => j_move S ix at' _ i j))
    cases e2 : m_rg S t with
    | none => exact ⟨Or.inr (Or.inr (Or.inl rfl)), W, Nat.le_succ _⟩
    | some j =>
      show m_app _ (j_move S ix at' _ i j)
      unfold j_move
      split
      · exact ⟨Or.inr (Or.inr (Or.inr (Or.inl rfl))), W, Nat.le_succ _⟩
      rename_i c5
      obtain ⟨v1, v2, v3⟩ := v_mv (j := j) (ix := ix) (at' := at') n.toNatClampNeg 0 S W hi (by omega)
      refine ⟨?_, v2, ?_⟩
      · rcases v1 with z | z | z
        · exact Or.inl z
        · exact Or.inr (Or.inr (Or.inl z))
        · exact Or.inr (Or.inr (Or.inr (Or.inr z)))
      · show m_mk (m_mv i j ix at' n.toNatClampNeg 0 S).2 ≤ _
        omega
theorem m_ct7 {t k : Nat} (h : k ≠ 7) : ¬ m_ct t k = 0 := by
  unfold m_ct
  split <;> first | exact absurd rfl h | decide
end VV
