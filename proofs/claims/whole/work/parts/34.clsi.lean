/-! ===== the class: resize; both constructors ===== -/
section CLI
variable {h : ac_H} {Z : Nat → Prop} {x : Nat} {ad : Nat → Nat} {ow : Nat → Option Nat} {hd : Nat} {hf : Nat → Option Nat} {S : m_S} {Q : ac_Q}
theorem nI_min {a b : Nat} (ha : a < 2 ^ 31) (hb : b < 2 ^ 31) : (if nI a < nI b then nI a else nI b) = nI (if a < b then a else b) := by
  by_cases c : a < b
  · rw [if_pos c, if_pos (nI_lt c hb)]
  · rw [if_neg c, if_neg (nI_nlt (by omega) (by omega))]
theorem sp_copyOf {s z n : Nat} {f : Nat → Int64} (hs : h s = some (.inr (2, z, .inr (.inl f)))) (hz : z ≤ 24) (hn : n ≤ 24) (h1 : ∀ h' q g, h q = none → h' q = some (.inr (2, n, .inr (.inl g))) → (∀ e, e < n → g e = if e < z then f e else 0) → (∀ b, b ≠ q → h' b = h b) → Q (.inl (some (.ref q))) h') : T_J7_copyOf_c38d5 [.ref s, .int (nI n)] h Q := by
  (intro P hP; conv => whnf)
  repeat (first | (refine hP _ _ _ _ _ _ ?_; conv => whnf) | (refine ⟨fun q => absurd q (by decide), fun _ => ?_⟩) | (refine ⟨fun _ => ?_, fun q => absurd (by decide) q⟩) | (refine ⟨_, by assumption, ?_⟩; conv => whnf))
  refine ⟨_, _, hs, ?_⟩
  repeat (first | (refine hP _ _ _ _ _ _ ?_; conv => whnf) | (refine ⟨fun q => absurd q (by decide), fun _ => ?_⟩) | (refine ⟨fun _ => ?_, fun q => absurd (by decide) q⟩) | (refine ⟨_, by assumption, ?_⟩; conv => whnf))
  by_cases c : n = z
  · subst c
    refine br_f (fun z => z rfl) ?_
    repeat (first | (refine hP _ _ _ _ _ _ ?_; conv => whnf) | (refine ⟨fun q => absurd q (by decide), fun _ => ?_⟩) | (refine ⟨fun _ => ?_, fun q => absurd (by decide) q⟩) | (refine ⟨_, by assumption, ?_⟩; conv => whnf))
    refine ⟨rfl, _, _, 24, hs, hz, Nat.le_of_ble_eq_true rfl, Nat.le_of_ble_eq_true rfl, fun q hq => ?_⟩
    repeat (first | (refine hP _ _ _ _ _ _ ?_; conv => whnf) | (refine ⟨fun q => absurd q (by decide), fun _ => ?_⟩) | (refine ⟨fun _ => ?_, fun q => absurd (by decide) q⟩) | (refine ⟨_, by assumption, ?_⟩; conv => whnf))
    refine ⟨_, _, ac_hsE, ?_⟩
    repeat (first | (refine hP _ _ _ _ _ _ ?_; conv => whnf) | (refine ⟨fun q => absurd q (by decide), fun _ => ?_⟩) | (refine ⟨fun _ => ?_, fun q => absurd (by decide) q⟩) | (refine ⟨_, by assumption, ?_⟩; conv => whnf))
    exact ⟨rfl, h1 _ q f hq ac_hsE (fun e he => (if_pos he).symm) (fun b hb => ac_hsN hb), by decide, by decide⟩
  · refine br_t (nI_ne c (by omega) (by omega)) ?_
    repeat (first | (refine hP _ _ _ _ _ _ ?_; conv => whnf) | (refine ⟨fun q => absurd q (by decide), fun _ => ?_⟩) | (refine ⟨fun _ => ?_, fun q => absurd (by decide) q⟩) | (refine ⟨_, by assumption, ?_⟩; conv => whnf))
    refine ⟨nI_pos (by omega), 24, by rw [nI_clamp (by omega)]; exact hn, by decide, Nat.le_of_ble_eq_true rfl, Nat.le_of_ble_eq_true rfl, fun q hq => ?_⟩
    have nq : s ≠ q := fun e => by rw [e, hq] at hs; cases hs
    rw [nI_clamp (by omega)]
    repeat (first | (refine hP _ _ _ _ _ _ ?_; conv => whnf) | (refine ⟨fun q => absurd q (by decide), fun _ => ?_⟩) | (refine ⟨fun _ => ?_, fun q => absurd (by decide) q⟩) | (refine ⟨_, by assumption, ?_⟩; conv => whnf))
    refine ⟨_, _, (ac_hsN nq).trans hs, ?_⟩
    repeat (first | (refine hP _ _ _ _ _ _ ?_; conv => whnf) | (refine ⟨fun q => absurd q (by decide), fun _ => ?_⟩) | (refine ⟨fun _ => ?_, fun q => absurd (by decide) q⟩) | (refine ⟨_, by assumption, ?_⟩; conv => whnf))
    refine ⟨Nat.le_of_ble_eq_true rfl, Nat.le_of_ble_eq_true rfl, Nat.le_of_ble_eq_true rfl, ?_⟩
    rw [nI_min (by omega) (by omega)]
    have hm : (if n < z then n else z) ≤ n ∧ (if n < z then n else z) ≤ z := by
      split
      · omega
      · omega
    have hm2 : ∀ e, e < n → (e < (if n < z then n else z) ↔ e < z) := by
      intro e he
      split
      · omega
      · exact Iff.rfl
    revert hm hm2
    generalize (if n < z then n else z) = m
    intro hm hm2
    repeat (first | (refine hP _ _ _ _ _ _ ?_; conv => whnf) | (refine ⟨fun q => absurd q (by decide), fun _ => ?_⟩) | (refine ⟨fun _ => ?_, fun q => absurd (by decide) q⟩) | (refine ⟨_, by assumption, ?_⟩; conv => whnf))
    refine ⟨rfl, _, _, _, _, (ac_hsN nq).trans hs, ac_hsE, by decide, by decide, nI_pos (by omega), ?_, ?_, ?_⟩
    · rw [nI_clamp (by omega)]
      show 0 + m ≤ z
      omega
    · rw [nI_clamp (by omega)]
      show 0 + m ≤ n
      omega
    rw [nI_clamp (by omega)]
    repeat (first | (refine hP _ _ _ _ _ _ ?_; conv => whnf) | (refine ⟨fun q => absurd q (by decide), fun _ => ?_⟩) | (refine ⟨fun _ => ?_, fun q => absurd (by decide) q⟩) | (refine ⟨_, by assumption, ?_⟩; conv => whnf))
    refine ⟨rfl, h1 _ q _ hq ac_hsE (fun e he => ?_) (fun b hb => ?_), by decide, by decide⟩
    · show (if 0 ≤ e ∧ e < 0 + m then f (0 + (e - 0)) else 0) = _
      by_cases c2 : e < z
      · rw [if_pos c2, if_pos (by have := (hm2 e he).mpr c2; omega), Nat.zero_add, Nat.sub_zero]
      · rw [if_neg c2, if_neg (fun y => c2 ((hm2 e he).mp (by omega)))]
    · rw [ac_hsN hb, ac_hsN hb]
theorem sp_firstItems {a s z n kp : Nat} {s0 : Int32} {f : Nat → Option Nat} (ha : h a = some (.inl (6, [.int s0, .null, .ref s]))) (hs : h s = some (.inr (3, z, .inr (.inr f)))) (hz : z ≤ 24) (hn : n ≤ 24) (hkz : kp ≤ z) (hkn : kp ≤ n) (hit : ∀ e q, e < kp → f e = some q → ∃ (ci : Nat) (fs : List Value), h q = some (.inl (ci, fs)) ∧ ∀ X : Prop, X → ac_item ci X) (h1 : ∀ h' q g, h q = none → h' q = some (.inr (3, n, .inr (.inr g))) → (∀ e, g e = if e < kp then f e else none) → (∀ b, b ≠ q → h' b = h b) → Q (.inl (some (.ref q))) h') : T_X3_firstItems [.ref a, .int (nI kp), .int (nI n)] h Q := by
  (intro P hP; conv => whnf)
  repeat (first | (refine hP _ _ _ _ _ _ ?_; conv => whnf) | (refine ⟨fun q => absurd q (by decide), fun _ => ?_⟩) | (refine ⟨fun _ => ?_, fun q => absurd (by decide) q⟩) | (refine ⟨_, by assumption, ?_⟩; conv => whnf))
  refine ⟨nI_pos (by omega), 24, by rw [nI_clamp (by omega)]; exact hn, by decide, Nat.le_of_ble_eq_true rfl, Nat.le_of_ble_eq_true rfl, fun q hq => ?_⟩
  rw [nI_clamp (by omega)]
  have na : a ≠ q := fun e => by rw [e, hq] at ha; cases ha
  have ns : s ≠ q := fun e => by rw [e, hq] at hs; cases hs
  have L : ∀ d j hx g, j + d = kp → hx q = some (.inr (3, n, .inr (.inr g))) → (∀ e, g e = if e < j then f e else none) → (∀ b, b ≠ q → hx b = h b) → P 8 [some (.ref a), some (.int (nI kp)), some (.int (nI n)), some (.ref q), some (.int (nI j))] [] hx 1 24 := by
    intro d
    induction d with
    | zero =>
      intro j hx g ej x1 x2 x3
      have ej' : j = kp := by omega
      subst ej'
      iterate 3 (refine hP _ _ _ _ _ _ ?_; conv => whnf)
      refine br_t (nI_le (Nat.le_refl _) (by omega)) ?_
      iterate 2 (refine hP _ _ _ _ _ _ ?_; conv => whnf)
      exact ⟨rfl, h1 hx q g hq x1 x2 x3, by decide, by decide⟩
    | succ d ih =>
      intro j hx g ej x1 x2 x3
      have ha' : hx a = some (.inl (6, [.int s0, .null, .ref s])) := (x3 a na).trans ha
      have hs' : hx s = some (.inr (3, z, .inr (.inr f))) := (x3 s ns).trans hs
      iterate 3 (refine hP _ _ _ _ _ _ ?_; conv => whnf)
      refine br_f (nI_ge (by omega) (by omega)) ?_
      iterate 4 (refine hP _ _ _ _ _ _ ?_; conv => whnf)
      refine ac_get ha' ?_
      (conv => whnf)
      iterate 2 (refine hP _ _ _ _ _ _ ?_; conv => whnf)
      refine ⟨_, _, hs', vp_in_nI (show j < z by omega) (by omega), ?_⟩
      rw [nI_clamp (by omega)]
      have ih2 := ih (j + 1) (ac_hs hx q (.inr (3, n, .inr (.inr (va_up g j (f j)))))) _ (by omega) ac_hsE (fun e => ?_) (fun b hb => (ac_hsN hb).trans (x3 b hb))
      · rw [← nI_1] at ih2
        cases ef : f j with
        | none =>
          rw [ef] at ih2
          refine ⟨fun _ => ?_, fun q z => by cases z⟩
          (refine hP _ _ _ _ _ _ ?_; conv => whnf)
          refine ⟨_, _, x1, vp_in_nI (show j < n by omega) (by omega), ?_⟩
          rw [nI_clamp (by omega)]
          iterate 2 (refine hP _ _ _ _ _ _ ?_; conv => whnf)
          exact ih2
        | some v =>
          rw [ef] at ih2
          obtain ⟨ci, fs, v1, v2⟩ := hit j v (by omega) ef
          have nv : v ≠ q := fun e => by rw [e, hq] at v1; cases v1
          refine ⟨fun z => (by cases z), fun q z => ?_⟩
          cases z
          (refine hP _ _ _ _ _ _ ?_; conv => whnf)
          refine ⟨rfl, _, _, _, _, x1, (x3 v nv).trans v1, v2 _ ⟨vp_in_nI (show j < n by omega) (by omega), ?_⟩⟩
          rw [nI_clamp (by omega)]
          iterate 2 (refine hP _ _ _ _ _ _ ?_; conv => whnf)
          exact ih2
      · show va_up g j (f j) e = _
        by_cases c : e = j
        · subst c
          rw [va_upE, if_pos (by omega)]
        · rw [va_upN c, x2 e]
          by_cases c2 : e < j
          · rw [if_pos c2, if_pos (by omega)]
          · rw [if_neg c2, if_neg (by omega)]
  iterate 3 (refine hP _ _ _ _ _ _ ?_; conv => whnf)
  exact L kp 0 _ (fun _ => none) (by omega) ac_hsE (fun e => (if_neg (by omega)).symm) (fun b hb => ac_hsN hb)
def c_rS (S : m_S) (i n : Nat) : m_S := m_sln (m_sstF S (m_fil (m_st S) i (m_kp S i n) 24 (fun _ => if m_kd S i = 8 then -1 else 0))) i n
theorem c_kp {i n : Nat} (hn : n ≤ 24) (hl : m_ln S i ≤ 24) : (if nI n < nI (m_ln S i) then nI n else nI (m_ln S i)) = nI (m_kp S i n) := by
  rw [nI_min (by omega) (by omega)]
  congr 1
  unfold m_kp
  by_cases c : m_ln S i < n
  · rw [if_pos c, if_neg (by omega)]
  · rw [if_neg c]
    split
    · rfl
    · omega
theorem c_rag {i j n : Nat} (nj : j ≠ i) : c_ag S (c_rS S i n) j := by
  refine ⟨?_, ?_, ?_, ?_, ?_, ?_, fun t ht => ?_, fun e he => ?_⟩
  · unfold c_rS; rw [p_kd_sln, p_kd_sstF]
  · unfold c_rS; rw [p_ln_sln, p_ln_sstF]; exact va_upN nj
  · unfold c_rS; rw [p_wd_sln, p_wd_sstF]
  · unfold c_rS; rw [p_gr_sln, p_gr_sstF]
  · unfold c_rS; rw [p_dp_sln, p_dp_sstF]
  · unfold c_rS; rw [p_sh_sln, p_sh_sstF]
  · unfold c_rS; rw [p_lo_sln, p_lo_sstF]
  · unfold c_rS; rw [p_st_sln, p_st_sstF]; exact if_neg (by omega)
theorem c_rst {i n e : Nat} (he : e < 24) : m_st (c_rS S i n) (24 * i + e) = if e < m_kp S i n then m_st S (24 * i + e) else if m_kd S i = 8 then -1 else 0 := by
  unfold c_rS
  rw [p_st_sln, p_st_sstF]
  unfold m_fil
  by_cases c : e < m_kp S i n
  · rw [if_pos c, if_neg (by omega)]
  · rw [if_neg c, if_pos (by omega)]
theorem c_rkd {i n : Nat} : m_kd (c_rS S i n) i = m_kd S i := by unfold c_rS; rw [p_kd_sln, p_kd_sstF]
theorem c_rlo {i n q : Nat} : m_lo (c_rS S i n) q = m_lo S q := by unfold c_rS; rw [p_lo_sln, p_lo_sstF]
theorem c_rln {i n : Nat} : m_ln (c_rS S i n) i = n := by unfold c_rS; rw [p_ln_sln, p_ln_sstF]; exact va_upE
theorem c_rrg {i n : Nat} : m_rg (c_rS S i n) = m_rg S := by unfold c_rS; rw [p_rg_sln, p_rg_sstF]
theorem c_rmk {i n : Nat} : m_mk (c_rS S i n) = m_mk S := by unfold c_rS; rw [p_mk_sln, p_mk_sstF]
theorem c_kpe {i n e : Nat} (he : e < n) : e < m_kp S i n ↔ e < m_ln S i := by
  unfold m_kp
  split
  · exact Iff.rfl
  · omega
theorem c_chLen (C : c_ch h Z x ad ow hd hf S) (W : m_wf S) {i n : Nat} (hi : i < m_mk S) (hk : m_kd S i ≤ 8) (l : m_lo S (6 * i) = false) (hn : n ≤ 24) (h1 : ∀ h', c_CH h' Z x (c_rS S i n) → c_fz Z h h' → Q (.inl (some (.int (nI (m_kp S i n))))) h') : T_X3_changeLength [.ref (ad i), .int (nI n)] h Q := by
  have A := C.2.2.2.1 i hi
  have hl := (W.2.2 i hi).2.1
  have na : h (ad i) ≠ none := fun z => by
    obtain ⟨vn, vi, e, -⟩ := c_vec A hk
    rw [z] at e
    cases e
  have oa : c_ow h ow i (ad i) = some i := (c_owO na).trans A.1
  rcases Nat.lt_or_ge (m_kd S i) 8 with c | c
  · obtain ⟨s, f, q1, q2, q3, q4⟩ := A.2.2.1 (by omega) l
    (intro P hP; conv => whnf)
    repeat (first | (refine hP _ _ _ _ _ _ ?_; conv => whnf) | (refine ⟨fun q => absurd q (by decide), fun _ => ?_⟩) | (refine ⟨fun _ => ?_, fun q => absurd (by decide) q⟩) | (refine ac_get C.1 ?_; conv => whnf) | (refine ⟨_, C.1, Nat.le_of_ble_eq_true rfl, Nat.le_of_ble_eq_true rfl, Nat.le_of_ble_eq_true rfl, ?_⟩) | (refine ⟨Nat.le_of_ble_eq_true rfl, Nat.le_of_ble_eq_true rfl, Nat.le_of_ble_eq_true rfl, ?_⟩))
    refine ⟨_, q1, Nat.le_of_ble_eq_true rfl, Nat.le_of_ble_eq_true rfl, Nat.le_of_ble_eq_true rfl, ?_⟩
    refine c_len A hk l ?_
    iterate 2 (refine hP _ _ _ _ _ _ ?_; conv => whnf)
    refine ⟨Nat.le_of_ble_eq_true rfl, Nat.le_of_ble_eq_true rfl, Nat.le_of_ble_eq_true rfl, ?_⟩
    rw [c_kp hn hl]
    repeat (first | (refine hP _ _ _ _ _ _ ?_; conv => whnf) | (refine ⟨fun q => absurd q (by decide), fun _ => ?_⟩) | (refine ⟨fun _ => ?_, fun q => absurd (by decide) q⟩) | (refine ac_get C.1 ?_; conv => whnf) | (refine ⟨_, C.1, Nat.le_of_ble_eq_true rfl, Nat.le_of_ble_eq_true rfl, Nat.le_of_ble_eq_true rfl, ?_⟩) | (refine ⟨Nat.le_of_ble_eq_true rfl, Nat.le_of_ble_eq_true rfl, Nat.le_of_ble_eq_true rfl, ?_⟩))
    refine ac_get q1 ?_
    (conv => whnf)
    repeat (first | (refine hP _ _ _ _ _ _ ?_; conv => whnf) | (refine ⟨fun q => absurd q (by decide), fun _ => ?_⟩) | (refine ⟨fun _ => ?_, fun q => absurd (by decide) q⟩) | (refine ac_get C.1 ?_; conv => whnf) | (refine ⟨_, C.1, Nat.le_of_ble_eq_true rfl, Nat.le_of_ble_eq_true rfl, Nat.le_of_ble_eq_true rfl, ?_⟩) | (refine ⟨Nat.le_of_ble_eq_true rfl, Nat.le_of_ble_eq_true rfl, Nat.le_of_ble_eq_true rfl, ?_⟩))
    refine ac_get q1 ?_
    (conv => whnf)
    repeat (first | (refine hP _ _ _ _ _ _ ?_; conv => whnf) | (refine ⟨fun q => absurd q (by decide), fun _ => ?_⟩) | (refine ⟨fun _ => ?_, fun q => absurd (by decide) q⟩) | (refine ac_get C.1 ?_; conv => whnf) | (refine ⟨_, C.1, Nat.le_of_ble_eq_true rfl, Nat.le_of_ble_eq_true rfl, Nat.le_of_ble_eq_true rfl, ?_⟩) | (refine ⟨Nat.le_of_ble_eq_true rfl, Nat.le_of_ble_eq_true rfl, Nat.le_of_ble_eq_true rfl, ?_⟩))
    refine sp_copyOf q3 hl hn (fun h' q g hq e1 e2 e3 => ?_)
    have nq : ad i ≠ q := fun z => na (by rw [z]; exact hq)
    repeat (first | (refine hP _ _ _ _ _ _ ?_; conv => whnf) | (refine ⟨fun q => absurd q (by decide), fun _ => ?_⟩) | (refine ⟨fun _ => ?_, fun q => absurd (by decide) q⟩) | (refine ac_get C.1 ?_; conv => whnf) | (refine ⟨_, C.1, Nat.le_of_ble_eq_true rfl, Nat.le_of_ble_eq_true rfl, Nat.le_of_ble_eq_true rfl, ?_⟩) | (refine ⟨Nat.le_of_ble_eq_true rfl, Nat.le_of_ble_eq_true rfl, Nat.le_of_ble_eq_true rfl, ?_⟩))
    refine ⟨_, (e3 _ nq).trans q1, ?_⟩
    (conv => whnf)
    obtain ⟨C', F'⟩ : c_ch (ac_hs h' (ad i) (.inl (6, [.int (nI (m_kd S i)), .ref q, .null]))) Z x ad (c_ow h ow i) hd hf (c_rS S i n) ∧ c_fz Z h (ac_hs h' (ad i) (.inl (6, [.int (nI (m_kd S i)), .ref q, .null]))) := by
      refine c_mod (g := i) C W (fun b nb => c_owO nb) (fun b nb o => ?_) ?_ (fun j _ nj => c_rag nj) c_rrg c_rmk
      · rw [ac_hsN (fun z => o (by rw [z]; exact A.1)), e3 b (fun z => nb (by rw [z]; exact hq))]
      · unfold c_it
        rw [c_rkd, c_rln, c_rlo, l]
        refine ⟨oa, fun _ z => (by cases z), fun _ _ => ⟨q, g, ac_hsE, c_owN hq, (ac_hsN (fun z => nq z.symm)).trans e1, fun e he => ?_⟩, fun z => by omega, fun z => by omega, fun z => by omega, fun z => by omega⟩
        rw [e2 e he, c_rst (by omega)]
        by_cases c2 : e < m_ln S i
        · rw [if_pos c2, if_pos ((c_kpe he).mpr c2), q4 e c2]
        · rw [if_neg c2, if_neg (fun z => c2 ((c_kpe he).mp z)), if_neg (by omega)]
    repeat (first | (refine hP _ _ _ _ _ _ ?_; conv => whnf) | (refine ⟨fun q => absurd q (by decide), fun _ => ?_⟩) | (refine ⟨fun _ => ?_, fun q => absurd (by decide) q⟩) | (refine ac_get C.1 ?_; conv => whnf) | (refine ⟨_, C.1, Nat.le_of_ble_eq_true rfl, Nat.le_of_ble_eq_true rfl, Nat.le_of_ble_eq_true rfl, ?_⟩) | (refine ⟨Nat.le_of_ble_eq_true rfl, Nat.le_of_ble_eq_true rfl, Nat.le_of_ble_eq_true rfl, ?_⟩))
    exact ⟨rfl, h1 _ ⟨_, _, _, _, C'⟩ F', by decide, by decide⟩
  · have k8 : m_kd S i = 8 := by omega
    obtain ⟨s, f, q1, q2, q3, q4⟩ := A.2.2.2.1 k8 l
    (intro P hP; conv => whnf)
    repeat (first | (refine hP _ _ _ _ _ _ ?_; conv => whnf) | (refine ⟨fun q => absurd q (by decide), fun _ => ?_⟩) | (refine ⟨fun _ => ?_, fun q => absurd (by decide) q⟩) | (refine ac_get C.1 ?_; conv => whnf) | (refine ⟨_, C.1, Nat.le_of_ble_eq_true rfl, Nat.le_of_ble_eq_true rfl, Nat.le_of_ble_eq_true rfl, ?_⟩) | (refine ⟨Nat.le_of_ble_eq_true rfl, Nat.le_of_ble_eq_true rfl, Nat.le_of_ble_eq_true rfl, ?_⟩))
    refine ⟨_, q1, Nat.le_of_ble_eq_true rfl, Nat.le_of_ble_eq_true rfl, Nat.le_of_ble_eq_true rfl, ?_⟩
    refine c_len A hk l ?_
    iterate 2 (refine hP _ _ _ _ _ _ ?_; conv => whnf)
    refine ⟨Nat.le_of_ble_eq_true rfl, Nat.le_of_ble_eq_true rfl, Nat.le_of_ble_eq_true rfl, ?_⟩
    rw [c_kp hn hl]
    repeat (first | (refine hP _ _ _ _ _ _ ?_; conv => whnf) | (refine ⟨fun q => absurd q (by decide), fun _ => ?_⟩) | (refine ⟨fun _ => ?_, fun q => absurd (by decide) q⟩) | (refine ac_get C.1 ?_; conv => whnf) | (refine ⟨_, C.1, Nat.le_of_ble_eq_true rfl, Nat.le_of_ble_eq_true rfl, Nat.le_of_ble_eq_true rfl, ?_⟩) | (refine ⟨Nat.le_of_ble_eq_true rfl, Nat.le_of_ble_eq_true rfl, Nat.le_of_ble_eq_true rfl, ?_⟩))
    refine ac_get q1 ?_
    (conv => whnf)
    repeat (first | (refine hP _ _ _ _ _ _ ?_; conv => whnf) | (refine ⟨fun q => absurd q (by decide), fun _ => ?_⟩) | (refine ⟨fun _ => ?_, fun q => absurd (by decide) q⟩) | (refine ac_get C.1 ?_; conv => whnf) | (refine ⟨_, C.1, Nat.le_of_ble_eq_true rfl, Nat.le_of_ble_eq_true rfl, Nat.le_of_ble_eq_true rfl, ?_⟩) | (refine ⟨Nat.le_of_ble_eq_true rfl, Nat.le_of_ble_eq_true rfl, Nat.le_of_ble_eq_true rfl, ?_⟩))
    refine ac_get q1 ?_
    (conv => whnf)
    repeat (first | (refine hP _ _ _ _ _ _ ?_; conv => whnf) | (refine ⟨fun q => absurd q (by decide), fun _ => ?_⟩) | (refine ⟨fun _ => ?_, fun q => absurd (by decide) q⟩) | (refine ac_get C.1 ?_; conv => whnf) | (refine ⟨_, C.1, Nat.le_of_ble_eq_true rfl, Nat.le_of_ble_eq_true rfl, Nat.le_of_ble_eq_true rfl, ?_⟩) | (refine ⟨Nat.le_of_ble_eq_true rfl, Nat.le_of_ble_eq_true rfl, Nat.le_of_ble_eq_true rfl, ?_⟩))
    refine ⟨_, q1, Nat.le_of_ble_eq_true rfl, Nat.le_of_ble_eq_true rfl, Nat.le_of_ble_eq_true rfl, ?_⟩
    have hkz : m_kp S i n ≤ m_ln S i ∧ m_kp S i n ≤ n := by
      unfold m_kp
      split
      · omega
      · omega
    refine sp_firstItems q1 q3 hl hn hkz.1 hkz.2 (fun e q he eq => ?_) (fun h' q g hq e1 e2 e3 => ?_)
    · rw [q4 e (by omega)] at eq
      have hL := (W.2.2 _ hi).2.2.2.2.2.2.1 k8 e (by omega)
      cases eo : m_dl (m_st S (24 * i + e)) with
      | none =>
        rw [eo] at eq
        cases eq
      | some j =>
        rw [eo] at eq
        have ej : ad j = q := by
          injection eq
        obtain ⟨fs, y⟩ := c_cls C W (hL.2 j eo)
        rw [← ej]
        exact ⟨_, fs, y, c_clI _⟩
    have nq : ad i ≠ q := fun z => na (by rw [z]; exact hq)
    repeat (first | (refine hP _ _ _ _ _ _ ?_; conv => whnf) | (refine ⟨fun q => absurd q (by decide), fun _ => ?_⟩) | (refine ⟨fun _ => ?_, fun q => absurd (by decide) q⟩) | (refine ac_get C.1 ?_; conv => whnf) | (refine ⟨_, C.1, Nat.le_of_ble_eq_true rfl, Nat.le_of_ble_eq_true rfl, Nat.le_of_ble_eq_true rfl, ?_⟩) | (refine ⟨Nat.le_of_ble_eq_true rfl, Nat.le_of_ble_eq_true rfl, Nat.le_of_ble_eq_true rfl, ?_⟩))
    refine ⟨_, (e3 _ nq).trans q1, ?_⟩
    (conv => whnf)
    obtain ⟨C', F'⟩ : c_ch (ac_hs h' (ad i) (.inl (6, [.int (nI 8), .null, .ref q]))) Z x ad (c_ow h ow i) hd hf (c_rS S i n) ∧ c_fz Z h (ac_hs h' (ad i) (.inl (6, [.int (nI 8), .null, .ref q]))) := by
      refine c_mod (g := i) C W (fun b nb => c_owO nb) (fun b nb o => ?_) ?_ (fun j _ nj => c_rag nj) c_rrg c_rmk
      · rw [ac_hsN (fun z => o (by rw [z]; exact A.1)), e3 b (fun z => nb (by rw [z]; exact hq))]
      · unfold c_it
        rw [c_rkd, c_rln, c_rlo, l]
        refine ⟨oa, fun _ z => (by cases z), fun z => by omega, fun _ _ => ⟨q, g, ac_hsE, c_owN hq, (ac_hsN (fun z => nq z.symm)).trans e1, fun e he => ?_⟩, fun z => by omega, fun z => by omega, fun z => by omega⟩
        rw [e2 e, c_rst (by omega)]
        by_cases c2 : e < m_kp S i n
        · rw [if_pos c2, if_pos c2, q4 e (by omega)]
        · rw [if_neg c2, if_neg c2, if_pos k8, show m_dl (-1) = none by decide]
          rfl
    repeat (first | (refine hP _ _ _ _ _ _ ?_; conv => whnf) | (refine ⟨fun q => absurd q (by decide), fun _ => ?_⟩) | (refine ⟨fun _ => ?_, fun q => absurd (by decide) q⟩) | (refine ac_get C.1 ?_; conv => whnf) | (refine ⟨_, C.1, Nat.le_of_ble_eq_true rfl, Nat.le_of_ble_eq_true rfl, Nat.le_of_ble_eq_true rfl, ?_⟩) | (refine ⟨Nat.le_of_ble_eq_true rfl, Nat.le_of_ble_eq_true rfl, Nat.le_of_ble_eq_true rfl, ?_⟩))
    exact ⟨rfl, h1 _ ⟨_, _, _, _, C'⟩ F', by decide, by decide⟩
theorem C_resize (C : c_ch h Z x ad ow hd hf S) (W : m_wf S) {r n : Int32} (hQ : m_app (fun x' a S' => ∀ h', c_CH h' Z x S' → c_fz Z h h' → Q (m_out x' (some (.int a))) h') (f_resize S r n)) : T_X5_resize [.ref x, .int r, .int n] h Q := by
  have K0 : c_CH h Z x S := ⟨_, _, _, _, C⟩
  have F0 : c_fz Z h h := fun _ _ => rfl
  unfold f_resize at hQ
  (intro P hP; conv => whnf)
  repeat (first | (refine hP _ _ _ _ _ _ ?_; conv => whnf) | (refine ⟨fun q => absurd q (by decide), fun _ => ?_⟩) | (refine ⟨fun _ => ?_, fun q => absurd (by decide) q⟩) | (refine ac_get C.1 ?_; conv => whnf) | (refine ⟨_, C.1, Nat.le_of_ble_eq_true rfl, Nat.le_of_ble_eq_true rfl, Nat.le_of_ble_eq_true rfl, ?_⟩) | (refine ⟨Nat.le_of_ble_eq_true rfl, Nat.le_of_ble_eq_true rfl, Nat.le_of_ble_eq_true rfl, ?_⟩))
  refine c_rr (fun b => ?_) (fun k hk er => ?_)
  · rw [if_pos (Or.inl b)] at hQ
    refine ac_koX (by decide) ?_
    exact hQ _ K0 F0
  subst er
  repeat (first | (refine hP _ _ _ _ _ _ ?_; conv => whnf) | (refine ⟨fun q => absurd q (by decide), fun _ => ?_⟩) | (refine ⟨fun _ => ?_, fun q => absurd (by decide) q⟩) | (refine ac_get C.1 ?_; conv => whnf) | (refine ⟨_, C.1, Nat.le_of_ble_eq_true rfl, Nat.le_of_ble_eq_true rfl, Nat.le_of_ble_eq_true rfl, ?_⟩) | (refine ⟨Nat.le_of_ble_eq_true rfl, Nat.le_of_ble_eq_true rfl, Nat.le_of_ble_eq_true rfl, ?_⟩))
  refine ⟨fun q => ?_, fun q => ?_⟩
  · rw [if_pos (Or.inr q)] at hQ
    repeat (first | (refine hP _ _ _ _ _ _ ?_; conv => whnf) | (refine ⟨fun q => absurd q (by decide), fun _ => ?_⟩) | (refine ⟨fun _ => ?_, fun q => absurd (by decide) q⟩) | (refine ac_get C.1 ?_; conv => whnf) | (refine ⟨_, C.1, Nat.le_of_ble_eq_true rfl, Nat.le_of_ble_eq_true rfl, Nat.le_of_ble_eq_true rfl, ?_⟩) | (refine ⟨Nat.le_of_ble_eq_true rfl, Nat.le_of_ble_eq_true rfl, Nat.le_of_ble_eq_true rfl, ?_⟩))
    refine sp_requireArgument (fun z => absurd rfl z) (fun _ => ?_)
    refine ac_koX (by decide) ?_
    exact hQ _ K0 F0
  rw [if_neg (fun z => z.elim (m_badG (by decide) hk) q), nI_clamp (by omega)] at hQ
  repeat (first | (refine hP _ _ _ _ _ _ ?_; conv => whnf) | (refine ⟨fun q => absurd q (by decide), fun _ => ?_⟩) | (refine ⟨fun _ => ?_, fun q => absurd (by decide) q⟩) | (refine ac_get C.1 ?_; conv => whnf) | (refine ⟨_, C.1, Nat.le_of_ble_eq_true rfl, Nat.le_of_ble_eq_true rfl, Nat.le_of_ble_eq_true rfl, ?_⟩) | (refine ⟨Nat.le_of_ble_eq_true rfl, Nat.le_of_ble_eq_true rfl, Nat.le_of_ble_eq_true rfl, ?_⟩))
  refine sp_requireArgument (fun _ => ?_) (fun z => absurd z (by decide))
  repeat (first | (refine hP _ _ _ _ _ _ ?_; conv => whnf) | (refine ⟨fun q => absurd q (by decide), fun _ => ?_⟩) | (refine ⟨fun _ => ?_, fun q => absurd (by decide) q⟩) | (refine ac_get C.1 ?_; conv => whnf) | (refine ⟨_, C.1, Nat.le_of_ble_eq_true rfl, Nat.le_of_ble_eq_true rfl, Nat.le_of_ble_eq_true rfl, ?_⟩) | (refine ⟨Nat.le_of_ble_eq_true rfl, Nat.le_of_ble_eq_true rfl, Nat.le_of_ble_eq_true rfl, ?_⟩))
  refine c_itemIn C hk (fun e => ?_) (fun i e => ?_)
  · rw [e] at hQ
    refine ac_koX (by decide) ?_
    exact hQ _ K0 F0
  rw [e] at hQ
  replace hQ : m_app _ (i_resize S n i) := hQ
  unfold i_resize at hQ
  have hi := W.2.1 k i hk e
  repeat (first | (refine hP _ _ _ _ _ _ ?_; conv => whnf) | (refine ⟨fun q => absurd q (by decide), fun _ => ?_⟩) | (refine ⟨fun _ => ?_, fun q => absurd (by decide) q⟩) | (refine ac_get C.1 ?_; conv => whnf) | (refine ⟨_, C.1, Nat.le_of_ble_eq_true rfl, Nat.le_of_ble_eq_true rfl, Nat.le_of_ble_eq_true rfl, ?_⟩) | (refine ⟨Nat.le_of_ble_eq_true rfl, Nat.le_of_ble_eq_true rfl, Nat.le_of_ble_eq_true rfl, ?_⟩))
  refine c_vecOf C W hi (fun k8 => ?_) (fun k8 => ?_)
  · rw [if_neg (by omega)] at hQ
    repeat (first | (refine hP _ _ _ _ _ _ ?_; conv => whnf) | (refine ⟨fun q => absurd q (by decide), fun _ => ?_⟩) | (refine ⟨fun _ => ?_, fun q => absurd (by decide) q⟩) | (refine ac_get C.1 ?_; conv => whnf) | (refine ⟨_, C.1, Nat.le_of_ble_eq_true rfl, Nat.le_of_ble_eq_true rfl, Nat.le_of_ble_eq_true rfl, ?_⟩) | (refine ⟨Nat.le_of_ble_eq_true rfl, Nat.le_of_ble_eq_true rfl, Nat.le_of_ble_eq_true rfl, ?_⟩))
    refine c_rz (fun q4 => ?_) (fun q4 => ?_)
    · rw [if_pos q4] at hQ
      refine ac_koX (by decide) ?_
      exact hQ _ K0 F0
    rw [if_neg q4] at hQ
    obtain ⟨u, hu, rfl⟩ := nI_of q4
    have hu24 : u ≤ 24 := by
      have : ¬ 24 < u := fun z => q (nI_lt (a := 24) z hu)
      omega
    rw [nI_clamp hu] at hQ
    have A := C.2.2.2.1 i hi
    obtain ⟨vn, vi, eg, -⟩ := c_vec A k8
    repeat (first | (refine hP _ _ _ _ _ _ ?_; conv => whnf) | (refine ⟨fun q => absurd q (by decide), fun _ => ?_⟩) | (refine ⟨fun _ => ?_, fun q => absurd (by decide) q⟩) | (refine ac_get C.1 ?_; conv => whnf) | (refine ⟨_, C.1, Nat.le_of_ble_eq_true rfl, Nat.le_of_ble_eq_true rfl, Nat.le_of_ble_eq_true rfl, ?_⟩) | (refine ⟨Nat.le_of_ble_eq_true rfl, Nat.le_of_ble_eq_true rfl, Nat.le_of_ble_eq_true rfl, ?_⟩))
    refine ⟨_, eg, Nat.le_of_ble_eq_true rfl, Nat.le_of_ble_eq_true rfl, Nat.le_of_ble_eq_true rfl, ?_⟩
    refine c_lost A k8 (fun l => ?_) (fun l => ?_)
    · rw [if_pos l] at hQ
      repeat (first | (refine hP _ _ _ _ _ _ ?_; conv => whnf) | (refine ⟨fun q => absurd q (by decide), fun _ => ?_⟩) | (refine ⟨fun _ => ?_, fun q => absurd (by decide) q⟩) | (refine ac_get C.1 ?_; conv => whnf) | (refine ⟨_, C.1, Nat.le_of_ble_eq_true rfl, Nat.le_of_ble_eq_true rfl, Nat.le_of_ble_eq_true rfl, ?_⟩) | (refine ⟨Nat.le_of_ble_eq_true rfl, Nat.le_of_ble_eq_true rfl, Nat.le_of_ble_eq_true rfl, ?_⟩))
      refine sp_requirePresent (fun z => absurd rfl z) (fun _ => ?_)
      refine ac_koX (by decide) ?_
      exact hQ _ K0 F0
    · rw [if_neg (by rw [l]; decide)] at hQ
      repeat (first | (refine hP _ _ _ _ _ _ ?_; conv => whnf) | (refine ⟨fun q => absurd q (by decide), fun _ => ?_⟩) | (refine ⟨fun _ => ?_, fun q => absurd (by decide) q⟩) | (refine ac_get C.1 ?_; conv => whnf) | (refine ⟨_, C.1, Nat.le_of_ble_eq_true rfl, Nat.le_of_ble_eq_true rfl, Nat.le_of_ble_eq_true rfl, ?_⟩) | (refine ⟨Nat.le_of_ble_eq_true rfl, Nat.le_of_ble_eq_true rfl, Nat.le_of_ble_eq_true rfl, ?_⟩))
      refine sp_requirePresent (fun _ => ?_) (fun z => absurd z (by decide))
      repeat (first | (refine hP _ _ _ _ _ _ ?_; conv => whnf) | (refine ⟨fun q => absurd q (by decide), fun _ => ?_⟩) | (refine ⟨fun _ => ?_, fun q => absurd (by decide) q⟩) | (refine ac_get C.1 ?_; conv => whnf) | (refine ⟨_, C.1, Nat.le_of_ble_eq_true rfl, Nat.le_of_ble_eq_true rfl, Nat.le_of_ble_eq_true rfl, ?_⟩) | (refine ⟨Nat.le_of_ble_eq_true rfl, Nat.le_of_ble_eq_true rfl, Nat.le_of_ble_eq_true rfl, ?_⟩))
      refine ⟨_, eg, Nat.le_of_ble_eq_true rfl, Nat.le_of_ble_eq_true rfl, Nat.le_of_ble_eq_true rfl, ?_⟩
      refine c_chLen C W hi k8 l hu24 (fun h' C' F' => ?_)
      repeat (first | (refine hP _ _ _ _ _ _ ?_; conv => whnf) | (refine ⟨fun q => absurd q (by decide), fun _ => ?_⟩) | (refine ⟨fun _ => ?_, fun q => absurd (by decide) q⟩) | (refine ac_get C.1 ?_; conv => whnf) | (refine ⟨_, C.1, Nat.le_of_ble_eq_true rfl, Nat.le_of_ble_eq_true rfl, Nat.le_of_ble_eq_true rfl, ?_⟩) | (refine ⟨Nat.le_of_ble_eq_true rfl, Nat.le_of_ble_eq_true rfl, Nat.le_of_ble_eq_true rfl, ?_⟩))
      exact ⟨rfl, hQ _ C' F', by decide, by decide⟩
  · rw [if_pos (by omega)] at hQ
    refine ac_koX (by decide) ?_
    exact hQ _ K0 F0
theorem sp_X5_init (hq : h x = some (.inl (8, ac_fr 8))) (h1 : ∀ h' q, h q = none → h' x = some (.inl (8, [.ref q, .int 0])) → h' q = some (.inr (3, 8, .inr (.inr (fun _ => none)))) → (∀ b, b ≠ x → b ≠ q → h' b = h b) → Q (.inl none) h') : T_X5_init [.ref x] h Q := by
  (intro P hP; conv => whnf)
  iterate 1 (refine hP _ _ _ _ _ _ ?_; conv => whnf)
  (refine hP _ _ _ _ _ _ ?_; conv => whnf)
  refine ⟨Nat.le_of_ble_eq_true rfl, ?_⟩
  iterate 2 (refine hP _ _ _ _ _ _ ?_; conv => whnf)
  (refine hP _ _ _ _ _ _ ?_; conv => whnf)
  refine ⟨by decide, 8, by decide, by decide, Nat.le_of_ble_eq_true rfl, Nat.le_of_ble_eq_true rfl, fun q h0 => ?_⟩
  have nq : x ≠ q := fun z => by rw [z, h0] at hq; cases hq
  (refine hP _ _ _ _ _ _ ?_; conv => whnf)
  refine ⟨_, (ac_hsN nq).trans hq, ?_⟩
  (conv => whnf)
  iterate 2 (refine hP _ _ _ _ _ _ ?_; conv => whnf)
  (refine hP _ _ _ _ _ _ ?_; conv => whnf)
  refine ⟨_, ac_hsE, ?_⟩
  (conv => whnf)
  (refine hP _ _ _ _ _ _ ?_; conv => whnf)
  refine ⟨rfl, h1 _ q h0 ac_hsE ((ac_hsN (fun z => nq z.symm)).trans ((ac_hsN (fun z => nq z.symm)).trans ac_hsE)) (fun b b1 b2 => ?_), by decide, by decide⟩
  rw [ac_hsN b1, ac_hsN b1, ac_hsN b2]
end CLI
