/-! ===== the class's cells ===== -/
abbrev c_oa (ad : Nat → Nat) (o : Option Nat) : Option Nat := o.map ad
/-- an item's cells: ad: where each item lies; ow: whose a cell is -/
def c_it (h : ac_H) (ad : Nat → Nat) (ow : Nat → Option Nat) (S : m_S) (i : Nat) : Prop :=
  ow (ad i) = some i ∧
  (m_kd S i ≤ 8 → m_lo S (6 * i) = true → h (ad i) = some (.inl (6, [.int (nI (m_kd S i)), .null, .null]))) ∧
  (m_kd S i ≤ 7 → m_lo S (6 * i) = false → ∃ (s : Nat) (f : Nat → Int64), h (ad i) = some (.inl (6, [.int (nI (m_kd S i)), .ref s, .null])) ∧ ow s = some i ∧ h s = some (.inr (2, m_ln S i, .inr (.inl f))) ∧ ∀ e, e < m_ln S i → f e = m_st S (24 * i + e)) ∧
  (m_kd S i = 8 → m_lo S (6 * i) = false → ∃ (s : Nat) (f : Nat → Option Nat), h (ad i) = some (.inl (6, [.int (nI 8), .null, .ref s])) ∧ ow s = some i ∧ h s = some (.inr (3, m_ln S i, .inr (.inr f))) ∧ ∀ e, e < m_ln S i → f e = c_oa ad (m_dl (m_st S (24 * i + e)))) ∧
  (m_kd S i = 9 → ∃ (s : Nat) (f : Nat → Option Nat), h (ad i) = some (.inl (4, [.ref s])) ∧ ow s = some i ∧ h s = some (.inr (4, m_ln S i, .inr (.inr f))) ∧ ∀ t, t < m_ln S i → (m_lo S (6 * i + t) = true → f t = none) ∧ (m_lo S (6 * i + t) = false → f t = some (s + 1 + t) ∧ ow (s + 1 + t) = some i ∧ ∃ g : Nat → Int32, h (s + 1 + t) = some (.inr (0, m_wd S i, .inl g)) ∧ ∀ c, c < m_wd S i → g c = (m_st S (24 * i + (m_wd S i * t + c))).toInt32)) ∧
  (m_kd S i = 10 → h (ad i) = some (.inl (5, [.long (m_st S (24 * i)), va_rf (c_oa ad (m_dl (m_st S (24 * i + 1))))]))) ∧
  (m_kd S i = 11 → h (ad i) = some (.inl (7, [.ref (ad (m_gr S i)), .int (m_sh S i), .int (nI (m_dp S i))])))
/-- two states say the same of an item -/
def c_ag (S S' : m_S) (i : Nat) : Prop := m_kd S' i = m_kd S i ∧ m_ln S' i = m_ln S i ∧ m_wd S' i = m_wd S i ∧ m_gr S' i = m_gr S i ∧ m_dp S' i = m_dp S i ∧ m_sh S' i = m_sh S i ∧ (∀ t, t < 6 → m_lo S' (6 * i + t) = m_lo S (6 * i + t)) ∧ ∀ e, e < 24 → m_st S' (24 * i + e) = m_st S (24 * i + e)
theorem c_oaC {ad ad' : Nat → Nat} {o : Option Nat} (h : ∀ j, o = some j → ad' j = ad j) : c_oa ad' o = c_oa ad o := by
  cases o with
  | none => rfl
  | some j => exact congrArg some (h j rfl)
theorem c_itF {h h' : ac_H} {ad ad' : Nat → Nat} {ow ow' : Nat → Option Nat} {S S' : m_S} {i : Nat} (W : m_wf S) (hi : i < m_mk S) (A : c_it h ad ow S i) (ag : c_ag S S' i) (ha : ∀ j, j < m_mk S → ad' j = ad j) (hh : ∀ b, ow b = some i → h b ≠ none → h' b = h b ∧ ow' b = some i) : c_it h' ad' ow' S' i := by
  obtain ⟨g1, g2, g3, g4, g5, g6, g7, g8⟩ := ag
  obtain ⟨w1, w2, w3, w4, w5, w6, w7, w8, w9, w10⟩ := W.2.2 i hi
  have g70 : m_lo S' (6 * i) = m_lo S (6 * i) := g7 0 (by omega)
  have g80 : m_st S' (24 * i) = m_st S (24 * i) := g8 0 (by omega)
  have mv : ∀ b e, ow b = some i → h b = some e → h' b = some e ∧ ow' b = some i := fun b e o q => by
    obtain ⟨q1, q2⟩ := hh b o (by rw [q]; exact fun z => by cases z)
    exact ⟨q1.trans q, q2⟩
  obtain ⟨a1, a2, a3, a4, a5, a6, a7⟩ := A
  have own : ow' (ad' i) = some i ∧ ∀ e, h (ad i) = some e → h' (ad' i) = some e := by
    rw [ha i hi]
    refine ⟨?_, fun e q => (mv _ e a1 q).1⟩
    have hne : ∃ e, h (ad i) = some e := by
      rcases Nat.lt_or_ge (m_kd S i) 9 with c | c
      · cases l : m_lo S (6 * i) with
        | true => exact ⟨_, a2 (by omega) l⟩
        | false =>
          rcases Nat.lt_or_ge (m_kd S i) 8 with c2 | c2
          · obtain ⟨s, f, q, -⟩ := a3 (by omega) l
            exact ⟨_, q⟩
          · obtain ⟨s, f, q, -⟩ := a4 (by omega) l
            exact ⟨_, q⟩
      · rcases (show m_kd S i = 9 ∨ m_kd S i = 10 ∨ m_kd S i = 11 by omega) with c2 | c2 | c2
        · obtain ⟨s, f, q, -⟩ := a5 c2
          exact ⟨_, q⟩
        · exact ⟨_, a6 c2⟩
        · exact ⟨_, a7 c2⟩
    obtain ⟨e, q⟩ := hne
    exact (mv _ e a1 q).2
  refine ⟨own.1, fun k l => ?_, fun k l => ?_, fun k l => ?_, fun k => ?_, fun k => ?_, fun k => ?_⟩
  · rw [g1] at k ⊢
    rw [g70] at l
    exact own.2 _ (a2 k l)
  · rw [g1] at k ⊢
    rw [g70] at l
    obtain ⟨s, f, q1, q2, q3, q4⟩ := a3 k l
    rw [g2]
    exact ⟨s, f, own.2 _ q1, (mv _ _ q2 q3).2, (mv _ _ q2 q3).1, fun e he => (q4 e he).trans (g8 e (by omega)).symm⟩
  · rw [g1] at k
    rw [g70] at l
    obtain ⟨s, f, q1, q2, q3, q4⟩ := a4 k l
    rw [g2]
    refine ⟨s, f, own.2 _ q1, (mv _ _ q2 q3).2, (mv _ _ q2 q3).1, fun e he => ?_⟩
    rw [g8 e (by omega)]
    refine (q4 e he).trans (c_oaC (fun j ej => ?_)).symm
    exact ha j ((w7 k e (by omega)).2 j ej)
  · rw [g1] at k
    obtain ⟨s, f, q1, q2, q3, q4⟩ := a5 k
    rw [g2, g3]
    refine ⟨s, f, own.2 _ q1, (mv _ _ q2 q3).2, (mv _ _ q2 q3).1, fun t ht => ?_⟩
    have ht6 : t < 6 := by have := (w6 k).1; omega
    rw [g7 t ht6]
    obtain ⟨u1, u2⟩ := q4 t ht
    refine ⟨u1, fun l => ?_⟩
    obtain ⟨v1, v2, g, v3, v4⟩ := u2 l
    refine ⟨v1, (mv _ _ v2 v3).2, g, (mv _ _ v2 v3).1, fun c hc => ?_⟩
    rw [g8 _ (m_gcell W hi k ht hc)]
    exact v4 c hc
  · rw [g1] at k
    rw [g80, g8 1 (by omega), c_oaC (ad := ad) (ad' := ad') (fun j ej => ha j ((w8 k).1.2 j ej))]
    exact own.2 _ (a6 k)
  · rw [g1] at k
    rw [g4, g5, g6, ha _ w4]
    exact own.2 _ (a7 k)
/-- the class's own cells; Z: cells that aren't its own -/
def c_ch (h : ac_H) (Z : Nat → Prop) (x : Nat) (ad : Nat → Nat) (ow : Nat → Option Nat) (hd : Nat) (hf : Nat → Option Nat) (S : m_S) : Prop :=
  h x = some (.inl (8, [.ref hd, .int (nI (m_mk S))])) ∧ h hd = some (.inr (3, 8, .inr (.inr hf))) ∧ (∀ r, r < 8 → hf r = c_oa ad (m_rg S r)) ∧ (∀ i, i < m_mk S → c_it h ad ow S i) ∧ (∀ b, Z b → h b ≠ none ∧ ow b = none) ∧ ¬ Z x ∧ ¬ Z hd ∧ ow x = none ∧ ow hd = none
def c_CH (h : ac_H) (Z : Nat → Prop) (x : Nat) (S : m_S) : Prop := ∃ (ad : Nat → Nat) (ow : Nat → Option Nat) (hd : Nat) (hf : Nat → Option Nat), c_ch h Z x ad ow hd hf S
def c_fz (Z : Nat → Prop) (h h' : ac_H) : Prop := ∀ b, Z b → h' b = h b
theorem c_ag0 {S : m_S} {i : Nat} : c_ag S S i := ⟨rfl, rfl, rfl, rfl, rfl, rfl, fun _ _ => rfl, fun _ _ => rfl⟩
/-- one item's cells change, new ones may come -/
theorem c_mod {h h' : ac_H} {Z : Nat → Prop} {x : Nat} {ad : Nat → Nat} {ow ow' : Nat → Option Nat} {hd : Nat} {hf : Nat → Option Nat} {S S' : m_S} {g : Nat} (C : c_ch h Z x ad ow hd hf S) (W : m_wf S) (how : ∀ b, h b ≠ none → ow' b = ow b) (hh : ∀ b, h b ≠ none → ow b ≠ some g → h' b = h b) (N : c_it h' ad ow' S' g) (ag : ∀ i, i < m_mk S → i ≠ g → c_ag S S' i) (e1 : m_rg S' = m_rg S) (e2 : m_mk S' = m_mk S) : c_ch h' Z x ad ow' hd hf S' ∧ c_fz Z h h' := by
  obtain ⟨C1, C2, C3, C4, C5, C6, C7, C8, C9⟩ := C
  have nx : h x ≠ none := fun z => by rw [z] at C1; cases C1
  have nd : h hd ≠ none := fun z => by rw [z] at C2; cases C2
  refine ⟨⟨?_, ?_, ?_, ?_, ?_, C6, C7, ?_, ?_⟩, ?_⟩
  · rw [hh x nx (by rw [C8]; exact fun z => by cases z), e2]
    exact C1
  · rw [hh hd nd (by rw [C9]; exact fun z => by cases z)]
    exact C2
  · rw [e1]
    exact C3
  · intro i hi
    rw [e2] at hi
    by_cases c : i = g
    · rw [c]
      exact N
    · refine c_itF W hi (C4 i hi) (ag i hi c) (fun _ _ => rfl) (fun b o n => ?_)
      exact ⟨hh b n (by rw [o]; exact fun z => c (by cases z; rfl)), (how b n).trans o⟩
  · intro b hb
    obtain ⟨z1, z2⟩ := C5 b hb
    rw [hh b z1 (by rw [z2]; exact fun z => by cases z), how b z1]
    exact ⟨z1, z2⟩
  · rw [how x nx]
    exact C8
  · rw [how hd nd]
    exact C9
  · intro b hb
    obtain ⟨z1, z2⟩ := C5 b hb
    exact hh b z1 (by rw [z2]; exact fun z => by cases z)
/-- cells that are new to h belong to item n -/
def c_ow (h : ac_H) (ow : Nat → Option Nat) (n b : Nat) : Option Nat := match h b with
  | none => some n
  | some _ => ow b
theorem c_owO {h : ac_H} {ow : Nat → Option Nat} {n b : Nat} (q : h b ≠ none) : c_ow h ow n b = ow b := by
  unfold c_ow
  cases e : h b with
  | none => exact absurd e q
  | some _ => rfl
theorem c_owN {h : ac_H} {ow : Nat → Option Nat} {n b : Nat} (q : h b = none) : c_ow h ow n b = some n := by
  unfold c_ow
  rw [q]
/-- held and the count, over an item that is new -/
theorem c_add {h0 h h' : ac_H} {Z : Nat → Prop} {x : Nat} {ad : Nat → Nat} {ow : Nat → Option Nat} {hd : Nat} {hf : Nat → Option Nat} {S S' : m_S} {k q : Nat} (C : c_ch h0 Z x ad ow hd hf S) (W : m_wf S) (ext : ∀ b, h0 b ≠ none → h b = h0 b) (hx : h' x = some (.inl (8, [.ref hd, .int (nI (m_mk S + 1))]))) (hh : h' hd = some (.inr (3, 8, .inr (.inr (va_up hf k (some q)))))) (ho : ∀ b, b ≠ x → b ≠ hd → h' b = h b) (N : c_it h (va_up ad (m_mk S) q) (c_ow h0 ow (m_mk S)) S' (m_mk S)) (W' : m_wf S') (ag : ∀ i, i < m_mk S → c_ag S S' i) (e1 : m_rg S' = va_up (m_rg S) k (some (m_mk S))) (e2 : m_mk S' = m_mk S + 1) : c_ch h' Z x (va_up ad (m_mk S) q) (c_ow h0 ow (m_mk S)) hd (va_up hf k (some q)) S' ∧ c_fz Z h0 h' := by
  obtain ⟨C1, C2, C3, C4, C5, C6, C7, C8, C9⟩ := C
  have nx : h0 x ≠ none := fun z => by rw [z] at C1; cases C1
  have nd : h0 hd ≠ none := fun z => by rw [z] at C2; cases C2
  have ax : c_ow h0 ow (m_mk S) x = none := (c_owO nx).trans C8
  have ah : c_ow h0 ow (m_mk S) hd = none := (c_owO nd).trans C9
  have aa : ∀ j, j < m_mk S → va_up ad (m_mk S) q j = ad j := fun j hj => va_upN (by omega)
  refine ⟨⟨?_, hh, ?_, ?_, ?_, C6, C7, ax, ah⟩, ?_⟩
  · rw [e2]
    exact hx
  · intro r hr
    rw [e1]
    by_cases c : r = k
    · subst c
      rw [va_upE, va_upE]
      exact congrArg some va_upE.symm
    · rw [va_upN c, va_upN c, C3 r hr]
      exact (c_oaC (fun j ej => aa j (W.2.1 r j hr ej))).symm
  · intro i hi
    rw [e2] at hi
    by_cases c : i = m_mk S
    · subst c
      refine c_itF W' (by omega) N c_ag0 (fun _ _ => rfl) (fun b o n => ⟨ho b ?_ ?_, o⟩)
      · exact fun z => by rw [z, ax] at o; cases o
      · exact fun z => by rw [z, ah] at o; cases o
    · refine c_itF W (by omega) (C4 i (by omega)) (ag i (by omega)) aa (fun b o n => ⟨?_, (c_owO n).trans o⟩)
      rw [ho b ?_ ?_, ext b n]
      · exact fun z => by rw [z, C8] at o; cases o
      · exact fun z => by rw [z, C9] at o; cases o
  · intro b hb
    obtain ⟨z1, z2⟩ := C5 b hb
    have e : h' b = h0 b := (ho b (fun z => C6 (z ▸ hb)) (fun z => C7 (z ▸ hb))).trans (ext b z1)
    rw [e]
    exact ⟨z1, (c_owO z1).trans z2⟩
  · intro b hb
    exact (ho b (fun z => C6 (z ▸ hb)) (fun z => C7 (z ▸ hb))).trans (ext b (C5 b hb).1)
/-- a register changes -/
theorem c_reg {h h' : ac_H} {Z : Nat → Prop} {x : Nat} {ad : Nat → Nat} {ow : Nat → Option Nat} {hd : Nat} {hf : Nat → Option Nat} {S : m_S} {k : Nat} {o : Option Nat} (C : c_ch h Z x ad ow hd hf S) (W : m_wf S) (hh : h' hd = some (.inr (3, 8, .inr (.inr (va_up hf k (c_oa ad o)))))) (ho : ∀ b, b ≠ hd → h' b = h b) : c_ch h' Z x ad ow hd (va_up hf k (c_oa ad o)) (m_srg S k o) ∧ c_fz Z h h' := by
  obtain ⟨C1, C2, C3, C4, C5, C6, C7, C8, C9⟩ := C
  have hxd : x ≠ hd := fun z => by rw [z, C2] at C1; cases C1
  refine ⟨⟨?_, hh, ?_, ?_, ?_, C6, C7, C8, C9⟩, ?_⟩
  · rw [ho x hxd]
    exact C1
  · intro r hr
    show _ = c_oa ad (va_up (m_rg S) k o r)
    by_cases c : r = k
    · subst c
      rw [va_upE, va_upE]
    · rw [va_upN c, va_upN c, C3 r hr]
  · intro i hi
    refine c_itF (S' := m_srg S k o) W hi (C4 i hi) c_ag0 (fun _ _ => rfl) (fun b o n => ⟨ho b ?_, o⟩)
    exact fun z => by rw [z, C9] at o; cases o
  · intro b hb
    rw [ho b (fun z => C7 (z ▸ hb))]
    exact C5 b hb
  · intro b hb
    exact ho b (fun z => C7 (z ▸ hb))
