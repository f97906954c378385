/-! ===== the law, call by call ===== -/
def l_Z (mm out : Nat) (ar : Nat → Nat) : Nat → Prop := fun b => b = mm ∨ b = out ∨ ∃ j, j < 8 ∧ b = ar j
/-- class and reference stand alike -/
def l_I (h : ac_H) (x mm out : Nat) (ar : Nat → Nat) (S : m_S) : Prop := c_CH h (l_Z mm out ar) x S ∧ (∃ ve el co : Int32, m_md h mm ar S ve el co) ∧ (∃ o : Nat → Int64, h out = some (.inr (2, 1, .inr (.inl o)))) ∧ m_wf S ∧ out ≠ mm ∧ ∀ j, j < 8 → out ≠ ar j
theorem md_cp {h h' : ac_H} {mm : Nat} {ar : Nat → Nat} {S : m_S} {ve el co : Int32} (M : m_md h mm ar S ve el co) (h1 : h' mm = h mm) (h2 : ∀ j, j < 8 → h' (ar j) = h (ar j)) : m_md h' mm ar S ve el co := by
  obtain ⟨M0, M1, M2, M3, M4, M5, M6, M7, M8, Mi, Mn⟩ := M
  exact ⟨h1.trans M0, (h2 0 (by decide)).trans M1, (h2 1 (by decide)).trans M2, (h2 2 (by decide)).trans M3, (h2 3 (by decide)).trans M4, (h2 4 (by decide)).trans M5, (h2 5 (by decide)).trans M6, (h2 6 (by decide)).trans M7, (h2 7 (by decide)).trans M8, Mi, Mn⟩
theorem md_nn {h : ac_H} {mm : Nat} {ar : Nat → Nat} {S : m_S} {ve el co : Int32} (M : m_md h mm ar S ve el co) : ∀ j, j < 8 → h (ar j) ≠ none := by
  obtain ⟨M0, M1, M2, M3, M4, M5, M6, M7, M8, Mi, Mn⟩ := M
  intro j hj
  match j, hj with
  | 0, _ => rw [M1]; exact sn
  | 1, _ => rw [M2]; exact sn
  | 2, _ => rw [M3]; exact sn
  | 3, _ => rw [M4]; exact sn
  | 4, _ => rw [M5]; exact sn
  | 5, _ => rw [M6]; exact sn
  | 6, _ => rw [M7]; exact sn
  | 7, _ => rw [M8]; exact sn
theorem l_md {h h1 : ac_H} {mm out : Nat} {ar : Nat → Nat} {S : m_S} {ve el co : Int32} (M : m_md h mm ar S ve el co) (n1 : out ≠ mm) (n2 : ∀ j, j < 8 → out ≠ ar j) (F : ∀ b, l_Z mm out ar b → b ≠ out → h1 b = h b) : m_md h1 mm ar S ve el co := md_cp M (F mm (Or.inl rfl) (fun z => n1 z.symm)) (fun j hj => F (ar j) (Or.inr (Or.inr ⟨j, hj, rfl⟩)) (fun z => n2 j hj z.symm))
theorem l_next {h1 h2 : ac_H} {x mm out : Nat} {ar : Nat → Nat} {S' : m_S} {o : Nat → Int64} {ve el co : Int32} (CH : c_CH h1 (l_Z mm out ar) x S') (W : m_wf S') (O1 : h1 out = some (.inr (2, 1, .inr (.inl o)))) (n1 : out ≠ mm) (n2 : ∀ j, j < 8 → out ≠ ar j) (M2 : m_md h2 mm ar S' ve el co) (F2 : m_fr mm ar h1 h2) : l_I h2 x mm out ar S' ∧ h2 out = some (.inr (2, 1, .inr (.inl o))) := by
  have O2 := (F2 out n1 n2).trans O1
  refine ⟨⟨c_zF CH W (fun b nb => F2 b (fun z => nb (Or.inl z)) (fun j hj z => nb (Or.inr (Or.inr ⟨j, hj, z⟩)))) (fun b hb => ?_), ⟨_, _, _, M2⟩, ⟨_, O2⟩, W, n1, n2⟩, O2⟩
  rcases hb with e | e | ⟨j, hj, e⟩
  · rw [e, M2.1]
    exact sn
  · rw [e, O2]
    exact sn
  · rw [e]
    exact md_nn M2 j hj
theorem sc_rd {scr : Nat → Nat → (Nat → Int32) → Prop} {sa L : Nat} {xs : Nat → Int32} (hs : scr sa L xs) {xx : Int32} {q : Nat} (hx : xx = nI q) (hq : q < L) (hL : L ≤ 3072) {P : ac_P} {nx : Nat} {lv : ac_V} {r : List Value} {h : ac_H} {k n : Nat} (K : P nx lv (.int (xs q) :: r) h k n) : ∃ (z : Nat) (f : Nat → Int32), scr sa z f ∧ vp_in xx z ∧ P nx lv (.int (f xx.toNatClampNeg) :: r) h k n := by
  subst hx
  refine ⟨_, _, hs, vp_in_nI hq (by omega), ?_⟩
  rw [nI_clamp (by omega)]
  exact K
section LAWP
variable {scr : Nat → Nat → (Nat → Int32) → Prop} {P : ac_P} {Q : ac_Q} {sa L x mm out c k n : Nat} {xs : Nat → Int32} {ar : Nat → Nat} {h : ac_H} {S : m_S}
theorem l_make (hP : ∀ (pc : Nat) (lv : ac_V) (st : List Value) (h : ac_H) (k n : Nat), ac_lkL (k_law scr) pc P Q lv st h k n → P pc lv st h k n) (hs : scr sa L xs) (hL : L ≤ 3072) (hc : 6 * c + 6 ≤ L) (I : l_I h x mm out ar S) (hm : m_mk S ≤ c) (hk : k ≤ 12 + 198 * c) (hn : n ≤ 18231 + 11080 * c) (K : ∀ h' S' v5 v6 v7 k' n', l_I h' x mm out ar S' → m_mk S' ≤ c + 1 → k' ≤ 12 + 198 * (c + 1) → n' ≤ 18231 + 11080 * (c + 1) → P 1665 [some (.ref sa), some (.ref x), some (.ref mm), some (.ref out), some (.int (nI (6 * c))), v5, v6, v7] [] h' k' n') : ∀ v5 v6 v7, P 136 [some (.ref sa), some (.ref x), some (.ref mm), some (.ref out), some (.int (nI (6 * c))), v5, v6, v7] [] h k n := by
  intro v5 v6 v7
  obtain ⟨⟨ad, ow, hd, hf, C⟩, ⟨ve, el, co, M⟩, ⟨o0, ho⟩, W, n1, n2⟩ := I
  have V := V_make (r := (xs (6 * c + 1))) (s := (xs (6 * c + 2))) (n := (xs (6 * c + 3))) W (by omega)
  repeat (refine hP _ _ _ _ _ _ ?_; conv => whnf)
  refine sc_rd hs (nI_add _ 1) (by omega) hL ?_
  repeat (refine hP _ _ _ _ _ _ ?_; conv => whnf)
  refine sc_rd hs (nI_add _ 2) (by omega) hL ?_
  repeat (refine hP _ _ _ _ _ _ ?_; conv => whnf)
  refine sc_rd hs (nI_add _ 3) (by omega) hL ?_
  repeat (refine hP _ _ _ _ _ _ ?_; conv => whnf)
  refine ⟨Nat.le_of_ble_eq_true rfl, ?_, ?_, ?_⟩
  · show k + 9 ≤ 603072
    omega
  · show n + 291 ≤ 7207018
    omega
  refine L_make C W (by omega) (Or.inr (Or.inl rfl)) ho ?_
  generalize ht : f_make S (xs (6 * c + 1)) (xs (6 * c + 2)) (xs (6 * c + 3)) = t at V ⊢
  obtain ⟨x', a, S'⟩ := t
  intro h1 o CH1 F1 O1 A1
  dsimp only [m_app] at V CH1 A1 ⊢
  obtain ⟨vx, vw, vm⟩ := V
  have M1 := l_md M n1 n2 F1
  repeat (refine hP _ _ _ _ _ _ ?_; conv => whnf)
  refine sc_rd hs (nI_add _ 1) (by omega) hL ?_
  repeat (refine hP _ _ _ _ _ _ ?_; conv => whnf)
  refine sc_rd hs (nI_add _ 2) (by omega) hL ?_
  repeat (refine hP _ _ _ _ _ _ ?_; conv => whnf)
  refine sc_rd hs (nI_add _ 3) (by omega) hL ?_
  repeat (refine hP _ _ _ _ _ _ ?_; conv => whnf)
  refine ⟨_, M1.1, Nat.le_of_ble_eq_true rfl, ?_, ?_, ?_⟩
  · show k + 9 + 0 ≤ 603072
    omega
  · show n + 291 + 0 ≤ 7207018
    omega
  refine R_make M1 W ?_
  rw [ht]
  intro h2 ve2 el2 M2 F2
  dsimp only at M2 ⊢
  obtain ⟨I2, O2⟩ := l_next CH1 vw O1 n1 n2 M2 F2
  repeat (refine hP _ _ _ _ _ _ ?_; conv => whnf)
  refine ⟨_, M2.1, Nat.le_of_ble_eq_true rfl, ?_, ?_, ?_⟩
  · show k + 9 + 0 + 0 ≤ 603072
    omega
  · show n + 291 + 0 + 0 ≤ 7207018
    omega
  refine r_thrown M2 ?_
  repeat (refine hP _ _ _ _ _ _ ?_; conv => whnf)
  refine br_t rfl ?_
  repeat (refine hP _ _ _ _ _ _ ?_; conv => whnf)
  by_cases h7 : x' = 7
  · have A2 := A1 h7
    refine br_f (fun z => z (by rw [h7]; rfl)) ?_
    repeat (refine hP _ _ _ _ _ _ ?_; conv => whnf)
    refine ⟨_, _, O2, vp_in_nI (n := 0) (by decide) (by decide), ?_⟩
    repeat (refine hP _ _ _ _ _ _ ?_; conv => whnf)
    refine br_t (lg_cmp0.mpr A2) ?_
    iterate 1 (refine hP _ _ _ _ _ _ ?_; conv => whnf)
    exact K _ S' _ _ _ _ _ I2 (by omega) (by show k + 9 + 0 + 0 ≤ _; omega) (by show n + 291 + 0 + 0 ≤ _; omega)
  · refine br_t (m_ct7 h7) ?_
    iterate 1 (refine hP _ _ _ _ _ _ ?_; conv => whnf)
    exact K _ S' _ _ _ _ _ I2 (by omega) (by show k + 9 + 0 + 0 ≤ _; omega) (by show n + 291 + 0 + 0 ≤ _; omega)
theorem l_grid (hP : ∀ (pc : Nat) (lv : ac_V) (st : List Value) (h : ac_H) (k n : Nat), ac_lkL (k_law scr) pc P Q lv st h k n → P pc lv st h k n) (hs : scr sa L xs) (hL : L ≤ 3072) (hc : 6 * c + 6 ≤ L) (I : l_I h x mm out ar S) (hm : m_mk S ≤ c) (hk : k ≤ 12 + 198 * c) (hn : n ≤ 18231 + 11080 * c) (K : ∀ h' S' v5 v6 v7 k' n', l_I h' x mm out ar S' → m_mk S' ≤ c + 1 → k' ≤ 12 + 198 * (c + 1) → n' ≤ 18231 + 11080 * (c + 1) → P 1665 [some (.ref sa), some (.ref x), some (.ref mm), some (.ref out), some (.int (nI (6 * c))), v5, v6, v7] [] h' k' n') : ∀ v5 v6 v7, P 216 [some (.ref sa), some (.ref x), some (.ref mm), some (.ref out), some (.int (nI (6 * c))), v5, v6, v7] [] h k n := by
  intro v5 v6 v7
  obtain ⟨⟨ad, ow, hd, hf, C⟩, ⟨ve, el, co, M⟩, ⟨o0, ho⟩, W, n1, n2⟩ := I
  have V := V_grid (r := (xs (6 * c + 1))) (a := (xs (6 * c + 2))) (b := (xs (6 * c + 3))) W (by omega)
  repeat (refine hP _ _ _ _ _ _ ?_; conv => whnf)
  refine sc_rd hs (nI_add _ 1) (by omega) hL ?_
  repeat (refine hP _ _ _ _ _ _ ?_; conv => whnf)
  refine sc_rd hs (nI_add _ 2) (by omega) hL ?_
  repeat (refine hP _ _ _ _ _ _ ?_; conv => whnf)
  refine sc_rd hs (nI_add _ 3) (by omega) hL ?_
  repeat (refine hP _ _ _ _ _ _ ?_; conv => whnf)
  refine ⟨Nat.le_of_ble_eq_true rfl, ?_, ?_, ?_⟩
  · show k + 17 ≤ 603072
    omega
  · show n + 493 ≤ 7207018
    omega
  refine L_grid C W (by omega) (Or.inr (Or.inl rfl)) ho ?_
  generalize ht : f_grid S (xs (6 * c + 1)) (xs (6 * c + 2)) (xs (6 * c + 3)) = t at V ⊢
  obtain ⟨x', a, S'⟩ := t
  intro h1 o CH1 F1 O1 A1
  dsimp only [m_app] at V CH1 A1 ⊢
  obtain ⟨vx, vw, vm⟩ := V
  have M1 := l_md M n1 n2 F1
  repeat (refine hP _ _ _ _ _ _ ?_; conv => whnf)
  refine sc_rd hs (nI_add _ 1) (by omega) hL ?_
  repeat (refine hP _ _ _ _ _ _ ?_; conv => whnf)
  refine sc_rd hs (nI_add _ 2) (by omega) hL ?_
  repeat (refine hP _ _ _ _ _ _ ?_; conv => whnf)
  refine sc_rd hs (nI_add _ 3) (by omega) hL ?_
  repeat (refine hP _ _ _ _ _ _ ?_; conv => whnf)
  refine ⟨_, M1.1, Nat.le_of_ble_eq_true rfl, ?_, ?_, ?_⟩
  · show k + 17 + 0 ≤ 603072
    omega
  · show n + 493 + 0 ≤ 7207018
    omega
  refine R_grid M1 W ?_
  rw [ht]
  intro h2 ve2 el2 M2 F2
  dsimp only at M2 ⊢
  obtain ⟨I2, O2⟩ := l_next CH1 vw O1 n1 n2 M2 F2
  repeat (refine hP _ _ _ _ _ _ ?_; conv => whnf)
  refine ⟨_, M2.1, Nat.le_of_ble_eq_true rfl, ?_, ?_, ?_⟩
  · show k + 17 + 0 + 0 ≤ 603072
    omega
  · show n + 493 + 0 + 0 ≤ 7207018
    omega
  refine r_thrown M2 ?_
  repeat (refine hP _ _ _ _ _ _ ?_; conv => whnf)
  refine br_t rfl ?_
  repeat (refine hP _ _ _ _ _ _ ?_; conv => whnf)
  by_cases h7 : x' = 7
  · have A2 := A1 h7
    refine br_f (fun z => z (by rw [h7]; rfl)) ?_
    repeat (refine hP _ _ _ _ _ _ ?_; conv => whnf)
    refine ⟨_, _, O2, vp_in_nI (n := 0) (by decide) (by decide), ?_⟩
    repeat (refine hP _ _ _ _ _ _ ?_; conv => whnf)
    refine br_t (lg_cmp0.mpr A2) ?_
    iterate 1 (refine hP _ _ _ _ _ _ ?_; conv => whnf)
    exact K _ S' _ _ _ _ _ I2 (by omega) (by show k + 17 + 0 + 0 ≤ _; omega) (by show n + 493 + 0 + 0 ≤ _; omega)
  · refine br_t (m_ct7 h7) ?_
    iterate 1 (refine hP _ _ _ _ _ _ ?_; conv => whnf)
    exact K _ S' _ _ _ _ _ I2 (by omega) (by show k + 17 + 0 + 0 ≤ _; omega) (by show n + 493 + 0 + 0 ≤ _; omega)
theorem l_record (hP : ∀ (pc : Nat) (lv : ac_V) (st : List Value) (h : ac_H) (k n : Nat), ac_lkL (k_law scr) pc P Q lv st h k n → P pc lv st h k n) (hs : scr sa L xs) (hL : L ≤ 3072) (hc : 6 * c + 6 ≤ L) (I : l_I h x mm out ar S) (hm : m_mk S ≤ c) (hk : k ≤ 12 + 198 * c) (hn : n ≤ 18231 + 11080 * c) (K : ∀ h' S' v5 v6 v7 k' n', l_I h' x mm out ar S' → m_mk S' ≤ c + 1 → k' ≤ 12 + 198 * (c + 1) → n' ≤ 18231 + 11080 * (c + 1) → P 1665 [some (.ref sa), some (.ref x), some (.ref mm), some (.ref out), some (.int (nI (6 * c))), v5, v6, v7] [] h' k' n') : ∀ v5 v6 v7, P 296 [some (.ref sa), some (.ref x), some (.ref mm), some (.ref out), some (.int (nI (6 * c))), v5, v6, v7] [] h k n := by
  intro v5 v6 v7
  obtain ⟨⟨ad, ow, hd, hf, C⟩, ⟨ve, el, co, M⟩, ⟨o0, ho⟩, W, n1, n2⟩ := I
  have V := V_record (r := (xs (6 * c + 1))) W (by omega)
  repeat (refine hP _ _ _ _ _ _ ?_; conv => whnf)
  refine sc_rd hs (nI_add _ 1) (by omega) hL ?_
  repeat (refine hP _ _ _ _ _ _ ?_; conv => whnf)
  refine ⟨Nat.le_of_ble_eq_true rfl, ?_, ?_, ?_⟩
  · show k + 2 ≤ 603072
    omega
  · show n + 8 ≤ 7207018
    omega
  refine L_record C W (by omega) (Or.inr (Or.inl rfl)) ho ?_
  generalize ht : f_record S (xs (6 * c + 1)) = t at V ⊢
  obtain ⟨x', a, S'⟩ := t
  intro h1 o CH1 F1 O1 A1
  dsimp only [m_app] at V CH1 A1 ⊢
  obtain ⟨vx, vw, vm⟩ := V
  have M1 := l_md M n1 n2 F1
  repeat (refine hP _ _ _ _ _ _ ?_; conv => whnf)
  refine sc_rd hs (nI_add _ 1) (by omega) hL ?_
  repeat (refine hP _ _ _ _ _ _ ?_; conv => whnf)
  refine ⟨_, M1.1, Nat.le_of_ble_eq_true rfl, ?_, ?_, ?_⟩
  · show k + 2 + 0 ≤ 603072
    omega
  · show n + 8 + 0 ≤ 7207018
    omega
  refine R_record M1 W ?_
  rw [ht]
  intro h2 ve2 el2 M2 F2
  dsimp only at M2 ⊢
  obtain ⟨I2, O2⟩ := l_next CH1 vw O1 n1 n2 M2 F2
  repeat (refine hP _ _ _ _ _ _ ?_; conv => whnf)
  refine ⟨_, M2.1, Nat.le_of_ble_eq_true rfl, ?_, ?_, ?_⟩
  · show k + 2 + 0 + 0 ≤ 603072
    omega
  · show n + 8 + 0 + 0 ≤ 7207018
    omega
  refine r_thrown M2 ?_
  repeat (refine hP _ _ _ _ _ _ ?_; conv => whnf)
  refine br_t rfl ?_
  repeat (refine hP _ _ _ _ _ _ ?_; conv => whnf)
  by_cases h7 : x' = 7
  · have A2 := A1 h7
    refine br_f (fun z => z (by rw [h7]; rfl)) ?_
    repeat (refine hP _ _ _ _ _ _ ?_; conv => whnf)
    refine ⟨_, _, O2, vp_in_nI (n := 0) (by decide) (by decide), ?_⟩
    repeat (refine hP _ _ _ _ _ _ ?_; conv => whnf)
    refine br_t (lg_cmp0.mpr A2) ?_
    iterate 1 (refine hP _ _ _ _ _ _ ?_; conv => whnf)
    exact K _ S' _ _ _ _ _ I2 (by omega) (by show k + 2 + 0 + 0 ≤ _; omega) (by show n + 8 + 0 + 0 ≤ _; omega)
  · refine br_t (m_ct7 h7) ?_
    iterate 1 (refine hP _ _ _ _ _ _ ?_; conv => whnf)
    exact K _ S' _ _ _ _ _ I2 (by omega) (by show k + 2 + 0 + 0 ≤ _; omega) (by show n + 8 + 0 + 0 ≤ _; omega)
theorem l_window (hP : ∀ (pc : Nat) (lv : ac_V) (st : List Value) (h : ac_H) (k n : Nat), ac_lkL (k_law scr) pc P Q lv st h k n → P pc lv st h k n) (hs : scr sa L xs) (hL : L ≤ 3072) (hc : 6 * c + 6 ≤ L) (I : l_I h x mm out ar S) (hm : m_mk S ≤ c) (hk : k ≤ 12 + 198 * c) (hn : n ≤ 18231 + 11080 * c) (K : ∀ h' S' v5 v6 v7 k' n', l_I h' x mm out ar S' → m_mk S' ≤ c + 1 → k' ≤ 12 + 198 * (c + 1) → n' ≤ 18231 + 11080 * (c + 1) → P 1665 [some (.ref sa), some (.ref x), some (.ref mm), some (.ref out), some (.int (nI (6 * c))), v5, v6, v7] [] h' k' n') : ∀ v5 v6 v7, P 352 [some (.ref sa), some (.ref x), some (.ref mm), some (.ref out), some (.int (nI (6 * c))), v5, v6, v7] [] h k n := by
  intro v5 v6 v7
  obtain ⟨⟨ad, ow, hd, hf, C⟩, ⟨ve, el, co, M⟩, ⟨o0, ho⟩, W, n1, n2⟩ := I
  have V := V_window (r := (xs (6 * c + 1))) (b := (xs (6 * c + 2))) (o := (xs (6 * c + 3))) W (by omega)
  repeat (refine hP _ _ _ _ _ _ ?_; conv => whnf)
  refine sc_rd hs (nI_add _ 1) (by omega) hL ?_
  repeat (refine hP _ _ _ _ _ _ ?_; conv => whnf)
  refine sc_rd hs (nI_add _ 2) (by omega) hL ?_
  repeat (refine hP _ _ _ _ _ _ ?_; conv => whnf)
  refine sc_rd hs (nI_add _ 3) (by omega) hL ?_
  repeat (refine hP _ _ _ _ _ _ ?_; conv => whnf)
  refine ⟨Nat.le_of_ble_eq_true rfl, ?_, ?_, ?_⟩
  · show k + 6 ≤ 603072
    omega
  · show n + 35 ≤ 7207018
    omega
  refine L_window C W (by omega) (Or.inr (Or.inl rfl)) ho ?_
  generalize ht : f_window S (xs (6 * c + 1)) (xs (6 * c + 2)) (xs (6 * c + 3)) = t at V ⊢
  obtain ⟨x', a, S'⟩ := t
  intro h1 o CH1 F1 O1 A1
  dsimp only [m_app] at V CH1 A1 ⊢
  obtain ⟨vx, vw, vm⟩ := V
  have M1 := l_md M n1 n2 F1
  repeat (refine hP _ _ _ _ _ _ ?_; conv => whnf)
  refine sc_rd hs (nI_add _ 1) (by omega) hL ?_
  repeat (refine hP _ _ _ _ _ _ ?_; conv => whnf)
  refine sc_rd hs (nI_add _ 2) (by omega) hL ?_
  repeat (refine hP _ _ _ _ _ _ ?_; conv => whnf)
  refine sc_rd hs (nI_add _ 3) (by omega) hL ?_
  repeat (refine hP _ _ _ _ _ _ ?_; conv => whnf)
  refine ⟨_, M1.1, Nat.le_of_ble_eq_true rfl, ?_, ?_, ?_⟩
  · show k + 6 + 0 ≤ 603072
    omega
  · show n + 35 + 0 ≤ 7207018
    omega
  refine R_window M1 W ?_
  rw [ht]
  intro h2 ve2 el2 M2 F2
  dsimp only at M2 ⊢
  obtain ⟨I2, O2⟩ := l_next CH1 vw O1 n1 n2 M2 F2
  repeat (refine hP _ _ _ _ _ _ ?_; conv => whnf)
  refine ⟨_, M2.1, Nat.le_of_ble_eq_true rfl, ?_, ?_, ?_⟩
  · show k + 6 + 0 + 0 ≤ 603072
    omega
  · show n + 35 + 0 + 0 ≤ 7207018
    omega
  refine r_thrown M2 ?_
  repeat (refine hP _ _ _ _ _ _ ?_; conv => whnf)
  refine br_t rfl ?_
  repeat (refine hP _ _ _ _ _ _ ?_; conv => whnf)
  by_cases h7 : x' = 7
  · have A2 := A1 h7
    refine br_f (fun z => z (by rw [h7]; rfl)) ?_
    repeat (refine hP _ _ _ _ _ _ ?_; conv => whnf)
    refine ⟨_, _, O2, vp_in_nI (n := 0) (by decide) (by decide), ?_⟩
    repeat (refine hP _ _ _ _ _ _ ?_; conv => whnf)
    refine br_t (lg_cmp0.mpr A2) ?_
    iterate 1 (refine hP _ _ _ _ _ _ ?_; conv => whnf)
    exact K _ S' _ _ _ _ _ I2 (by omega) (by show k + 6 + 0 + 0 ≤ _; omega) (by show n + 35 + 0 + 0 ≤ _; omega)
  · refine br_t (m_ct7 h7) ?_
    iterate 1 (refine hP _ _ _ _ _ _ ?_; conv => whnf)
    exact K _ S' _ _ _ _ _ I2 (by omega) (by show k + 6 + 0 + 0 ≤ _; omega) (by show n + 35 + 0 + 0 ≤ _; omega)
theorem l_copy (hP : ∀ (pc : Nat) (lv : ac_V) (st : List Value) (h : ac_H) (k n : Nat), ac_lkL (k_law scr) pc P Q lv st h k n → P pc lv st h k n) (hs : scr sa L xs) (hL : L ≤ 3072) (hc : 6 * c + 6 ≤ L) (I : l_I h x mm out ar S) (hm : m_mk S ≤ c) (hk : k ≤ 12 + 198 * c) (hn : n ≤ 18231 + 11080 * c) (K : ∀ h' S' v5 v6 v7 k' n', l_I h' x mm out ar S' → m_mk S' ≤ c + 1 → k' ≤ 12 + 198 * (c + 1) → n' ≤ 18231 + 11080 * (c + 1) → P 1665 [some (.ref sa), some (.ref x), some (.ref mm), some (.ref out), some (.int (nI (6 * c))), v5, v6, v7] [] h' k' n') : ∀ v5 v6 v7, P 432 [some (.ref sa), some (.ref x), some (.ref mm), some (.ref out), some (.int (nI (6 * c))), v5, v6, v7] [] h k n := by
  intro v5 v6 v7
  obtain ⟨⟨ad, ow, hd, hf, C⟩, ⟨ve, el, co, M⟩, ⟨o0, ho⟩, W, n1, n2⟩ := I
  have V := V_copy (r := (xs (6 * c + 1))) (f := (xs (6 * c + 2))) W
  repeat (refine hP _ _ _ _ _ _ ?_; conv => whnf)
  refine sc_rd hs (nI_add _ 1) (by omega) hL ?_
  repeat (refine hP _ _ _ _ _ _ ?_; conv => whnf)
  refine sc_rd hs (nI_add _ 2) (by omega) hL ?_
  repeat (refine hP _ _ _ _ _ _ ?_; conv => whnf)
  refine ⟨Nat.le_of_ble_eq_true rfl, ?_, ?_, ?_⟩
  · show k + 2 ≤ 603072
    omega
  · show n + 12 ≤ 7207018
    omega
  refine L_copy C W (Or.inr (Or.inl rfl)) ho ?_
  generalize ht : f_copy S (xs (6 * c + 1)) (xs (6 * c + 2)) = t at V ⊢
  obtain ⟨x', a, S'⟩ := t
  intro h1 o CH1 F1 O1 A1
  dsimp only [m_app] at V CH1 A1 ⊢
  obtain ⟨vx, vw, vm, va⟩ := V
  have M1 := l_md M n1 n2 F1
  repeat (refine hP _ _ _ _ _ _ ?_; conv => whnf)
  refine sc_rd hs (nI_add _ 1) (by omega) hL ?_
  repeat (refine hP _ _ _ _ _ _ ?_; conv => whnf)
  refine sc_rd hs (nI_add _ 2) (by omega) hL ?_
  repeat (refine hP _ _ _ _ _ _ ?_; conv => whnf)
  refine ⟨_, M1.1, Nat.le_of_ble_eq_true rfl, ?_, ?_, ?_⟩
  · show k + 2 + 0 ≤ 603072
    omega
  · show n + 12 + 0 ≤ 7207018
    omega
  refine R_copy M1 W ?_
  rw [ht]
  intro h2 ve2 el2 M2 F2
  dsimp only at M2 ⊢
  obtain ⟨I2, O2⟩ := l_next CH1 vw O1 n1 n2 M2 F2
  repeat (refine hP _ _ _ _ _ _ ?_; conv => whnf)
  refine ⟨_, M2.1, Nat.le_of_ble_eq_true rfl, ?_, ?_, ?_⟩
  · show k + 2 + 0 + 0 ≤ 603072
    omega
  · show n + 12 + 0 + 0 ≤ 7207018
    omega
  refine r_thrown M2 ?_
  repeat (refine hP _ _ _ _ _ _ ?_; conv => whnf)
  refine br_t rfl ?_
  repeat (refine hP _ _ _ _ _ _ ?_; conv => whnf)
  by_cases h7 : x' = 7
  · have A2 := A1 h7
    refine br_f (fun z => z (by rw [h7]; rfl)) ?_
    repeat (refine hP _ _ _ _ _ _ ?_; conv => whnf)
    refine ⟨_, _, O2, vp_in_nI (n := 0) (by decide) (by decide), ?_⟩
    rcases va with e | e
    · subst e
      repeat (refine hP _ _ _ _ _ _ ?_; conv => whnf)
      refine ⟨fun _ => ?_, fun q => absurd (by decide) q⟩
      repeat (refine hP _ _ _ _ _ _ ?_; conv => whnf)
      refine br_t (lg_cmp0.mpr A2) ?_
      iterate 1 (refine hP _ _ _ _ _ _ ?_; conv => whnf)
      exact K _ S' _ _ _ _ _ I2 (by omega) (by show k + 2 + 0 + 0 ≤ _; omega) (by show n + 12 + 0 + 0 ≤ _; omega)
    · subst e
      repeat (refine hP _ _ _ _ _ _ ?_; conv => whnf)
      refine ⟨fun q => absurd q (by decide), fun _ => ?_⟩
      repeat (refine hP _ _ _ _ _ _ ?_; conv => whnf)
      refine br_t (lg_cmp0.mpr A2) ?_
      iterate 1 (refine hP _ _ _ _ _ _ ?_; conv => whnf)
      exact K _ S' _ _ _ _ _ I2 (by omega) (by show k + 2 + 0 + 0 ≤ _; omega) (by show n + 12 + 0 + 0 ≤ _; omega)
  · refine br_t (m_ct7 h7) ?_
    iterate 1 (refine hP _ _ _ _ _ _ ?_; conv => whnf)
    exact K _ S' _ _ _ _ _ I2 (by omega) (by show k + 2 + 0 + 0 ≤ _; omega) (by show n + 12 + 0 + 0 ≤ _; omega)
theorem l_lose (hP : ∀ (pc : Nat) (lv : ac_V) (st : List Value) (h : ac_H) (k n : Nat), ac_lkL (k_law scr) pc P Q lv st h k n → P pc lv st h k n) (hs : scr sa L xs) (hL : L ≤ 3072) (hc : 6 * c + 6 ≤ L) (I : l_I h x mm out ar S) (hm : m_mk S ≤ c) (hk : k ≤ 12 + 198 * c) (hn : n ≤ 18231 + 11080 * c) (K : ∀ h' S' v5 v6 v7 k' n', l_I h' x mm out ar S' → m_mk S' ≤ c + 1 → k' ≤ 12 + 198 * (c + 1) → n' ≤ 18231 + 11080 * (c + 1) → P 1665 [some (.ref sa), some (.ref x), some (.ref mm), some (.ref out), some (.int (nI (6 * c))), v5, v6, v7] [] h' k' n') : ∀ v5 v6 v7, P 507 [some (.ref sa), some (.ref x), some (.ref mm), some (.ref out), some (.int (nI (6 * c))), v5, v6, v7] [] h k n := by
  intro v5 v6 v7
  obtain ⟨⟨ad, ow, hd, hf, C⟩, ⟨ve, el, co, M⟩, ⟨o0, ho⟩, W, n1, n2⟩ := I
  have V := V_lose (r := (xs (6 * c + 1))) (w := (xs (6 * c + 2))) W
  repeat (refine hP _ _ _ _ _ _ ?_; conv => whnf)
  refine sc_rd hs (nI_add _ 1) (by omega) hL ?_
  repeat (refine hP _ _ _ _ _ _ ?_; conv => whnf)
  refine sc_rd hs (nI_add _ 2) (by omega) hL ?_
  repeat (refine hP _ _ _ _ _ _ ?_; conv => whnf)
  refine ⟨Nat.le_of_ble_eq_true rfl, ?_, ?_, ?_⟩
  · show k + 8 ≤ 603072
    omega
  · show n + 258 ≤ 7207018
    omega
  refine L_lose C W (Or.inr (Or.inl rfl)) ho ?_
  generalize ht : f_lose S (xs (6 * c + 1)) (xs (6 * c + 2)) = t at V ⊢
  obtain ⟨x', a, S'⟩ := t
  intro h1 o CH1 F1 O1 A1
  dsimp only [m_app] at V CH1 A1 ⊢
  obtain ⟨vx, vw, vm⟩ := V
  have M1 := l_md M n1 n2 F1
  repeat (refine hP _ _ _ _ _ _ ?_; conv => whnf)
  refine sc_rd hs (nI_add _ 1) (by omega) hL ?_
  repeat (refine hP _ _ _ _ _ _ ?_; conv => whnf)
  refine sc_rd hs (nI_add _ 2) (by omega) hL ?_
  repeat (refine hP _ _ _ _ _ _ ?_; conv => whnf)
  refine ⟨_, M1.1, Nat.le_of_ble_eq_true rfl, ?_, ?_, ?_⟩
  · show k + 8 + 0 ≤ 603072
    omega
  · show n + 258 + 0 ≤ 7207018
    omega
  refine R_lose M1 W ?_
  rw [ht]
  intro h2 ve2 el2 M2 F2
  dsimp only at M2 ⊢
  obtain ⟨I2, O2⟩ := l_next CH1 vw O1 n1 n2 M2 F2
  repeat (refine hP _ _ _ _ _ _ ?_; conv => whnf)
  refine ⟨_, M2.1, Nat.le_of_ble_eq_true rfl, ?_, ?_, ?_⟩
  · show k + 8 + 0 + 0 ≤ 603072
    omega
  · show n + 258 + 0 + 0 ≤ 7207018
    omega
  refine r_thrown M2 ?_
  repeat (refine hP _ _ _ _ _ _ ?_; conv => whnf)
  refine br_t rfl ?_
  repeat (refine hP _ _ _ _ _ _ ?_; conv => whnf)
  by_cases h7 : x' = 7
  · have A2 := A1 h7
    refine br_f (fun z => z (by rw [h7]; rfl)) ?_
    repeat (refine hP _ _ _ _ _ _ ?_; conv => whnf)
    refine ⟨_, _, O2, vp_in_nI (n := 0) (by decide) (by decide), ?_⟩
    repeat (refine hP _ _ _ _ _ _ ?_; conv => whnf)
    refine br_t (lg_cmp0.mpr A2) ?_
    iterate 1 (refine hP _ _ _ _ _ _ ?_; conv => whnf)
    exact K _ S' _ _ _ _ _ I2 (by omega) (by show k + 8 + 0 + 0 ≤ _; omega) (by show n + 258 + 0 + 0 ≤ _; omega)
  · refine br_t (m_ct7 h7) ?_
    iterate 1 (refine hP _ _ _ _ _ _ ?_; conv => whnf)
    exact K _ S' _ _ _ _ _ I2 (by omega) (by show k + 8 + 0 + 0 ≤ _; omega) (by show n + 258 + 0 + 0 ≤ _; omega)
theorem l_resize (hP : ∀ (pc : Nat) (lv : ac_V) (st : List Value) (h : ac_H) (k n : Nat), ac_lkL (k_law scr) pc P Q lv st h k n → P pc lv st h k n) (hs : scr sa L xs) (hL : L ≤ 3072) (hc : 6 * c + 6 ≤ L) (I : l_I h x mm out ar S) (hm : m_mk S ≤ c) (hk : k ≤ 12 + 198 * c) (hn : n ≤ 18231 + 11080 * c) (K : ∀ h' S' v5 v6 v7 k' n', l_I h' x mm out ar S' → m_mk S' ≤ c + 1 → k' ≤ 12 + 198 * (c + 1) → n' ≤ 18231 + 11080 * (c + 1) → P 1665 [some (.ref sa), some (.ref x), some (.ref mm), some (.ref out), some (.int (nI (6 * c))), v5, v6, v7] [] h' k' n') : ∀ v5 v6 v7, P 575 [some (.ref sa), some (.ref x), some (.ref mm), some (.ref out), some (.int (nI (6 * c))), v5, v6, v7] [] h k n := by
  intro v5 v6 v7
  obtain ⟨⟨ad, ow, hd, hf, C⟩, ⟨ve, el, co, M⟩, ⟨o0, ho⟩, W, n1, n2⟩ := I
  have V := V_resize (r := (xs (6 * c + 1))) (n := (xs (6 * c + 2))) W
  repeat (refine hP _ _ _ _ _ _ ?_; conv => whnf)
  refine sc_rd hs (nI_add _ 1) (by omega) hL ?_
  repeat (refine hP _ _ _ _ _ _ ?_; conv => whnf)
  refine sc_rd hs (nI_add _ 2) (by omega) hL ?_
  repeat (refine hP _ _ _ _ _ _ ?_; conv => whnf)
  refine ⟨Nat.le_of_ble_eq_true rfl, ?_, ?_, ?_⟩
  · show k + 11 ≤ 603072
    omega
  · show n + 328 ≤ 7207018
    omega
  refine L_resize C W (Or.inr (Or.inl rfl)) ho ?_
  generalize ht : f_resize S (xs (6 * c + 1)) (xs (6 * c + 2)) = t at V ⊢
  obtain ⟨x', a, S'⟩ := t
  intro h1 o CH1 F1 O1 A1
  dsimp only [m_app] at V CH1 A1 ⊢
  obtain ⟨vx, vw, vm⟩ := V
  have M1 := l_md M n1 n2 F1
  repeat (refine hP _ _ _ _ _ _ ?_; conv => whnf)
  refine sc_rd hs (nI_add _ 1) (by omega) hL ?_
  repeat (refine hP _ _ _ _ _ _ ?_; conv => whnf)
  refine sc_rd hs (nI_add _ 2) (by omega) hL ?_
  repeat (refine hP _ _ _ _ _ _ ?_; conv => whnf)
  refine ⟨_, M1.1, Nat.le_of_ble_eq_true rfl, ?_, ?_, ?_⟩
  · show k + 11 + 0 ≤ 603072
    omega
  · show n + 328 + 0 ≤ 7207018
    omega
  refine R_resize M1 W ?_
  rw [ht]
  intro h2 ve2 el2 M2 F2
  dsimp only at M2 ⊢
  obtain ⟨I2, O2⟩ := l_next CH1 vw O1 n1 n2 M2 F2
  repeat (refine hP _ _ _ _ _ _ ?_; conv => whnf)
  refine ⟨_, M2.1, Nat.le_of_ble_eq_true rfl, ?_, ?_, ?_⟩
  · show k + 11 + 0 + 0 ≤ 603072
    omega
  · show n + 328 + 0 + 0 ≤ 7207018
    omega
  refine r_thrown M2 ?_
  repeat (refine hP _ _ _ _ _ _ ?_; conv => whnf)
  refine br_t rfl ?_
  repeat (refine hP _ _ _ _ _ _ ?_; conv => whnf)
  by_cases h7 : x' = 7
  · have A2 := A1 h7
    refine br_f (fun z => z (by rw [h7]; rfl)) ?_
    repeat (refine hP _ _ _ _ _ _ ?_; conv => whnf)
    refine ⟨_, _, O2, vp_in_nI (n := 0) (by decide) (by decide), ?_⟩
    repeat (refine hP _ _ _ _ _ _ ?_; conv => whnf)
    refine br_t (lg_cmp0.mpr A2) ?_
    iterate 1 (refine hP _ _ _ _ _ _ ?_; conv => whnf)
    exact K _ S' _ _ _ _ _ I2 (by omega) (by show k + 11 + 0 + 0 ≤ _; omega) (by show n + 328 + 0 + 0 ≤ _; omega)
  · refine br_t (m_ct7 h7) ?_
    iterate 1 (refine hP _ _ _ _ _ _ ?_; conv => whnf)
    exact K _ S' _ _ _ _ _ I2 (by omega) (by show k + 11 + 0 + 0 ≤ _; omega) (by show n + 328 + 0 + 0 ≤ _; omega)
theorem l_size (hP : ∀ (pc : Nat) (lv : ac_V) (st : List Value) (h : ac_H) (k n : Nat), ac_lkL (k_law scr) pc P Q lv st h k n → P pc lv st h k n) (hs : scr sa L xs) (hL : L ≤ 3072) (hc : 6 * c + 6 ≤ L) (I : l_I h x mm out ar S) (hm : m_mk S ≤ c) (hk : k ≤ 12 + 198 * c) (hn : n ≤ 18231 + 11080 * c) (K : ∀ h' S' v5 v6 v7 k' n', l_I h' x mm out ar S' → m_mk S' ≤ c + 1 → k' ≤ 12 + 198 * (c + 1) → n' ≤ 18231 + 11080 * (c + 1) → P 1665 [some (.ref sa), some (.ref x), some (.ref mm), some (.ref out), some (.int (nI (6 * c))), v5, v6, v7] [] h' k' n') : ∀ v5 v6 v7, P 643 [some (.ref sa), some (.ref x), some (.ref mm), some (.ref out), some (.int (nI (6 * c))), v5, v6, v7] [] h k n := by
  intro v5 v6 v7
  obtain ⟨⟨ad, ow, hd, hf, C⟩, ⟨ve, el, co, M⟩, ⟨o0, ho⟩, W, n1, n2⟩ := I
  have V := V_size (r := (xs (6 * c + 1))) W
  repeat (refine hP _ _ _ _ _ _ ?_; conv => whnf)
  refine sc_rd hs (nI_add _ 1) (by omega) hL ?_
  repeat (refine hP _ _ _ _ _ _ ?_; conv => whnf)
  refine ⟨Nat.le_of_ble_eq_true rfl, ?_, ?_, ?_⟩
  · show k + 4 ≤ 603072
    omega
  · show n + 28 ≤ 7207018
    omega
  refine L_size C W (Or.inr (Or.inl rfl)) ho ?_
  generalize ht : f_size S (xs (6 * c + 1)) = t at V ⊢
  obtain ⟨x', a, S'⟩ := t
  intro h1 o CH1 F1 O1 A1
  dsimp only [m_app] at V CH1 A1 ⊢
  obtain ⟨vx, vw, vm⟩ := V
  have M1 := l_md M n1 n2 F1
  repeat (refine hP _ _ _ _ _ _ ?_; conv => whnf)
  refine sc_rd hs (nI_add _ 1) (by omega) hL ?_
  repeat (refine hP _ _ _ _ _ _ ?_; conv => whnf)
  refine ⟨_, M1.1, Nat.le_of_ble_eq_true rfl, ?_, ?_, ?_⟩
  · show k + 4 + 0 ≤ 603072
    omega
  · show n + 28 + 0 ≤ 7207018
    omega
  refine R_size M1 W ?_
  rw [ht]
  intro h2 ve2 el2 M2 F2
  dsimp only at M2 ⊢
  obtain ⟨I2, O2⟩ := l_next CH1 vw O1 n1 n2 M2 F2
  repeat (refine hP _ _ _ _ _ _ ?_; conv => whnf)
  refine ⟨_, M2.1, Nat.le_of_ble_eq_true rfl, ?_, ?_, ?_⟩
  · show k + 4 + 0 + 0 ≤ 603072
    omega
  · show n + 28 + 0 + 0 ≤ 7207018
    omega
  refine r_thrown M2 ?_
  repeat (refine hP _ _ _ _ _ _ ?_; conv => whnf)
  refine br_t rfl ?_
  repeat (refine hP _ _ _ _ _ _ ?_; conv => whnf)
  by_cases h7 : x' = 7
  · have A2 := A1 h7
    refine br_f (fun z => z (by rw [h7]; rfl)) ?_
    repeat (refine hP _ _ _ _ _ _ ?_; conv => whnf)
    refine ⟨_, _, O2, vp_in_nI (n := 0) (by decide) (by decide), ?_⟩
    repeat (refine hP _ _ _ _ _ _ ?_; conv => whnf)
    refine br_t (lg_cmp0.mpr A2) ?_
    iterate 1 (refine hP _ _ _ _ _ _ ?_; conv => whnf)
    exact K _ S' _ _ _ _ _ I2 (by omega) (by show k + 4 + 0 + 0 ≤ _; omega) (by show n + 28 + 0 + 0 ≤ _; omega)
  · refine br_t (m_ct7 h7) ?_
    iterate 1 (refine hP _ _ _ _ _ _ ?_; conv => whnf)
    exact K _ S' _ _ _ _ _ I2 (by omega) (by show k + 4 + 0 + 0 ≤ _; omega) (by show n + 28 + 0 + 0 ≤ _; omega)
theorem l_take (hP : ∀ (pc : Nat) (lv : ac_V) (st : List Value) (h : ac_H) (k n : Nat), ac_lkL (k_law scr) pc P Q lv st h k n → P pc lv st h k n) (hs : scr sa L xs) (hL : L ≤ 3072) (hc : 6 * c + 6 ≤ L) (I : l_I h x mm out ar S) (hm : m_mk S ≤ c) (hk : k ≤ 12 + 198 * c) (hn : n ≤ 18231 + 11080 * c) (K : ∀ h' S' v5 v6 v7 k' n', l_I h' x mm out ar S' → m_mk S' ≤ c + 1 → k' ≤ 12 + 198 * (c + 1) → n' ≤ 18231 + 11080 * (c + 1) → P 1665 [some (.ref sa), some (.ref x), some (.ref mm), some (.ref out), some (.int (nI (6 * c))), v5, v6, v7] [] h' k' n') : ∀ v5 v6 v7, P 699 [some (.ref sa), some (.ref x), some (.ref mm), some (.ref out), some (.int (nI (6 * c))), v5, v6, v7] [] h k n := by
  intro v5 v6 v7
  obtain ⟨⟨ad, ow, hd, hf, C⟩, ⟨ve, el, co, M⟩, ⟨o0, ho⟩, W, n1, n2⟩ := I
  have V := V_take (r := (xs (6 * c + 1))) (ix := (xs (6 * c + 2))) W
  repeat (refine hP _ _ _ _ _ _ ?_; conv => whnf)
  refine sc_rd hs (nI_add _ 1) (by omega) hL ?_
  repeat (refine hP _ _ _ _ _ _ ?_; conv => whnf)
  refine sc_rd hs (nI_add _ 2) (by omega) hL ?_
  repeat (refine hP _ _ _ _ _ _ ?_; conv => whnf)
  refine ⟨Nat.le_of_ble_eq_true rfl, ?_, ?_, ?_⟩
  · show k + 7 ≤ 603072
    omega
  · show n + 250 ≤ 7207018
    omega
  refine L_take C W (Or.inr (Or.inl rfl)) ho ?_
  generalize ht : f_take S (xs (6 * c + 1)) (xs (6 * c + 2)) = t at V ⊢
  obtain ⟨x', a, S'⟩ := t
  intro h1 o CH1 F1 O1 A1
  dsimp only [m_app] at V CH1 A1 ⊢
  obtain ⟨vx, vw, vm⟩ := V
  have M1 := l_md M n1 n2 F1
  repeat (refine hP _ _ _ _ _ _ ?_; conv => whnf)
  refine sc_rd hs (nI_add _ 1) (by omega) hL ?_
  repeat (refine hP _ _ _ _ _ _ ?_; conv => whnf)
  refine sc_rd hs (nI_add _ 2) (by omega) hL ?_
  repeat (refine hP _ _ _ _ _ _ ?_; conv => whnf)
  refine ⟨_, M1.1, Nat.le_of_ble_eq_true rfl, ?_, ?_, ?_⟩
  · show k + 7 + 0 ≤ 603072
    omega
  · show n + 250 + 0 ≤ 7207018
    omega
  refine R_take M1 W ?_
  rw [ht]
  intro h2 ve2 el2 M2 F2
  dsimp only at M2 ⊢
  obtain ⟨I2, O2⟩ := l_next CH1 vw O1 n1 n2 M2 F2
  repeat (refine hP _ _ _ _ _ _ ?_; conv => whnf)
  refine ⟨_, M2.1, Nat.le_of_ble_eq_true rfl, ?_, ?_, ?_⟩
  · show k + 7 + 0 + 0 ≤ 603072
    omega
  · show n + 250 + 0 + 0 ≤ 7207018
    omega
  refine r_thrown M2 ?_
  repeat (refine hP _ _ _ _ _ _ ?_; conv => whnf)
  refine br_t rfl ?_
  repeat (refine hP _ _ _ _ _ _ ?_; conv => whnf)
  by_cases h7 : x' = 7
  · have A2 := A1 h7
    refine br_f (fun z => z (by rw [h7]; rfl)) ?_
    repeat (refine hP _ _ _ _ _ _ ?_; conv => whnf)
    refine ⟨_, _, O2, vp_in_nI (n := 0) (by decide) (by decide), ?_⟩
    repeat (refine hP _ _ _ _ _ _ ?_; conv => whnf)
    refine br_t (lg_cmp0.mpr A2) ?_
    iterate 1 (refine hP _ _ _ _ _ _ ?_; conv => whnf)
    exact K _ S' _ _ _ _ _ I2 (by omega) (by show k + 7 + 0 + 0 ≤ _; omega) (by show n + 250 + 0 + 0 ≤ _; omega)
  · refine br_t (m_ct7 h7) ?_
    iterate 1 (refine hP _ _ _ _ _ _ ?_; conv => whnf)
    exact K _ S' _ _ _ _ _ I2 (by omega) (by show k + 7 + 0 + 0 ≤ _; omega) (by show n + 250 + 0 + 0 ≤ _; omega)
theorem l_put (hP : ∀ (pc : Nat) (lv : ac_V) (st : List Value) (h : ac_H) (k n : Nat), ac_lkL (k_law scr) pc P Q lv st h k n → P pc lv st h k n) (hs : scr sa L xs) (hL : L ≤ 3072) (hc : 6 * c + 6 ≤ L) (I : l_I h x mm out ar S) (hm : m_mk S ≤ c) (hk : k ≤ 12 + 198 * c) (hn : n ≤ 18231 + 11080 * c) (K : ∀ h' S' v5 v6 v7 k' n', l_I h' x mm out ar S' → m_mk S' ≤ c + 1 → k' ≤ 12 + 198 * (c + 1) → n' ≤ 18231 + 11080 * (c + 1) → P 1665 [some (.ref sa), some (.ref x), some (.ref mm), some (.ref out), some (.int (nI (6 * c))), v5, v6, v7] [] h' k' n') : ∀ v5 v6 v7, P 766 [some (.ref sa), some (.ref x), some (.ref mm), some (.ref out), some (.int (nI (6 * c))), v5, v6, v7] [] h k n := by
  intro v5 v6 v7
  obtain ⟨⟨ad, ow, hd, hf, C⟩, ⟨ve, el, co, M⟩, ⟨o0, ho⟩, W, n1, n2⟩ := I
  have V := V_put (r := (xs (6 * c + 1))) (ix := (xs (6 * c + 2))) (v := (((xs (6 * c + 3)).toInt64 <<< ((32 : Int32).toInt64 &&& 63)) ||| ((xs (6 * c + 4)).toInt64 &&& 4294967295))) W
  repeat (refine hP _ _ _ _ _ _ ?_; conv => whnf)
  refine sc_rd hs (nI_add _ 1) (by omega) hL ?_
  repeat (refine hP _ _ _ _ _ _ ?_; conv => whnf)
  refine sc_rd hs (nI_add _ 2) (by omega) hL ?_
  repeat (refine hP _ _ _ _ _ _ ?_; conv => whnf)
  refine sc_rd hs (nI_add _ 3) (by omega) hL ?_
  repeat (refine hP _ _ _ _ _ _ ?_; conv => whnf)
  refine sc_rd hs (nI_add _ 4) (by omega) hL ?_
  repeat (refine hP _ _ _ _ _ _ ?_; conv => whnf)
  refine ⟨Nat.le_of_ble_eq_true rfl, ?_, ?_, ?_⟩
  · show k + 7 ≤ 603072
    omega
  · show n + 250 ≤ 7207018
    omega
  refine L_put C W (Or.inr (Or.inl rfl)) ho ?_
  generalize ht : f_put S (xs (6 * c + 1)) (xs (6 * c + 2)) (((xs (6 * c + 3)).toInt64 <<< ((32 : Int32).toInt64 &&& 63)) ||| ((xs (6 * c + 4)).toInt64 &&& 4294967295)) = t at V ⊢
  obtain ⟨x', a, S'⟩ := t
  intro h1 o CH1 F1 O1 A1
  dsimp only [m_app] at V CH1 A1 ⊢
  obtain ⟨vx, vw, vm⟩ := V
  have M1 := l_md M n1 n2 F1
  repeat (refine hP _ _ _ _ _ _ ?_; conv => whnf)
  refine sc_rd hs (nI_add _ 1) (by omega) hL ?_
  repeat (refine hP _ _ _ _ _ _ ?_; conv => whnf)
  refine sc_rd hs (nI_add _ 2) (by omega) hL ?_
  repeat (refine hP _ _ _ _ _ _ ?_; conv => whnf)
  refine sc_rd hs (nI_add _ 3) (by omega) hL ?_
  repeat (refine hP _ _ _ _ _ _ ?_; conv => whnf)
  refine sc_rd hs (nI_add _ 4) (by omega) hL ?_
  repeat (refine hP _ _ _ _ _ _ ?_; conv => whnf)
  refine ⟨_, M1.1, Nat.le_of_ble_eq_true rfl, ?_, ?_, ?_⟩
  · show k + 7 + 0 ≤ 603072
    omega
  · show n + 250 + 0 ≤ 7207018
    omega
  refine R_put M1 W ?_
  rw [ht]
  intro h2 ve2 el2 M2 F2
  dsimp only at M2 ⊢
  obtain ⟨I2, O2⟩ := l_next CH1 vw O1 n1 n2 M2 F2
  repeat (refine hP _ _ _ _ _ _ ?_; conv => whnf)
  refine ⟨_, M2.1, Nat.le_of_ble_eq_true rfl, ?_, ?_, ?_⟩
  · show k + 7 + 0 + 0 ≤ 603072
    omega
  · show n + 250 + 0 + 0 ≤ 7207018
    omega
  refine r_thrown M2 ?_
  repeat (refine hP _ _ _ _ _ _ ?_; conv => whnf)
  refine br_t rfl ?_
  repeat (refine hP _ _ _ _ _ _ ?_; conv => whnf)
  by_cases h7 : x' = 7
  · have A2 := A1 h7
    refine br_f (fun z => z (by rw [h7]; rfl)) ?_
    repeat (refine hP _ _ _ _ _ _ ?_; conv => whnf)
    refine ⟨_, _, O2, vp_in_nI (n := 0) (by decide) (by decide), ?_⟩
    repeat (refine hP _ _ _ _ _ _ ?_; conv => whnf)
    refine br_t (lg_cmp0.mpr A2) ?_
    iterate 1 (refine hP _ _ _ _ _ _ ?_; conv => whnf)
    exact K _ S' _ _ _ _ _ I2 (by omega) (by show k + 7 + 0 + 0 ≤ _; omega) (by show n + 250 + 0 + 0 ≤ _; omega)
  · refine br_t (m_ct7 h7) ?_
    iterate 1 (refine hP _ _ _ _ _ _ ?_; conv => whnf)
    exact K _ S' _ _ _ _ _ I2 (by omega) (by show k + 7 + 0 + 0 ≤ _; omega) (by show n + 250 + 0 + 0 ≤ _; omega)
theorem l_cell (hP : ∀ (pc : Nat) (lv : ac_V) (st : List Value) (h : ac_H) (k n : Nat), ac_lkL (k_law scr) pc P Q lv st h k n → P pc lv st h k n) (hs : scr sa L xs) (hL : L ≤ 3072) (hc : 6 * c + 6 ≤ L) (I : l_I h x mm out ar S) (hm : m_mk S ≤ c) (hk : k ≤ 12 + 198 * c) (hn : n ≤ 18231 + 11080 * c) (K : ∀ h' S' v5 v6 v7 k' n', l_I h' x mm out ar S' → m_mk S' ≤ c + 1 → k' ≤ 12 + 198 * (c + 1) → n' ≤ 18231 + 11080 * (c + 1) → P 1665 [some (.ref sa), some (.ref x), some (.ref mm), some (.ref out), some (.int (nI (6 * c))), v5, v6, v7] [] h' k' n') : ∀ v5 v6 v7, P 877 [some (.ref sa), some (.ref x), some (.ref mm), some (.ref out), some (.int (nI (6 * c))), v5, v6, v7] [] h k n := by
  intro v5 v6 v7
  obtain ⟨⟨ad, ow, hd, hf, C⟩, ⟨ve, el, co, M⟩, ⟨o0, ho⟩, W, n1, n2⟩ := I
  have V := V_cell (r := (xs (6 * c + 1))) (w := (xs (6 * c + 2))) (c := (xs (6 * c + 3))) W
  repeat (refine hP _ _ _ _ _ _ ?_; conv => whnf)
  refine sc_rd hs (nI_add _ 1) (by omega) hL ?_
  repeat (refine hP _ _ _ _ _ _ ?_; conv => whnf)
  refine sc_rd hs (nI_add _ 2) (by omega) hL ?_
  repeat (refine hP _ _ _ _ _ _ ?_; conv => whnf)
  refine sc_rd hs (nI_add _ 3) (by omega) hL ?_
  repeat (refine hP _ _ _ _ _ _ ?_; conv => whnf)
  refine ⟨Nat.le_of_ble_eq_true rfl, ?_, ?_, ?_⟩
  · show k + 10 ≤ 603072
    omega
  · show n + 472 ≤ 7207018
    omega
  refine L_cell C W (Or.inr (Or.inl rfl)) ho ?_
  generalize ht : f_cell S (xs (6 * c + 1)) (xs (6 * c + 2)) (xs (6 * c + 3)) = t at V ⊢
  obtain ⟨x', a, S'⟩ := t
  intro h1 o CH1 F1 O1 A1
  dsimp only [m_app] at V CH1 A1 ⊢
  obtain ⟨vx, vw, vm⟩ := V
  have M1 := l_md M n1 n2 F1
  repeat (refine hP _ _ _ _ _ _ ?_; conv => whnf)
  refine sc_rd hs (nI_add _ 1) (by omega) hL ?_
  repeat (refine hP _ _ _ _ _ _ ?_; conv => whnf)
  refine sc_rd hs (nI_add _ 2) (by omega) hL ?_
  repeat (refine hP _ _ _ _ _ _ ?_; conv => whnf)
  refine sc_rd hs (nI_add _ 3) (by omega) hL ?_
  repeat (refine hP _ _ _ _ _ _ ?_; conv => whnf)
  refine ⟨_, M1.1, Nat.le_of_ble_eq_true rfl, ?_, ?_, ?_⟩
  · show k + 10 + 0 ≤ 603072
    omega
  · show n + 472 + 0 ≤ 7207018
    omega
  refine R_cell M1 W ?_
  rw [ht]
  intro h2 ve2 el2 M2 F2
  dsimp only at M2 ⊢
  obtain ⟨I2, O2⟩ := l_next CH1 vw O1 n1 n2 M2 F2
  repeat (refine hP _ _ _ _ _ _ ?_; conv => whnf)
  refine ⟨_, M2.1, Nat.le_of_ble_eq_true rfl, ?_, ?_, ?_⟩
  · show k + 10 + 0 + 0 ≤ 603072
    omega
  · show n + 472 + 0 + 0 ≤ 7207018
    omega
  refine r_thrown M2 ?_
  repeat (refine hP _ _ _ _ _ _ ?_; conv => whnf)
  refine br_t rfl ?_
  repeat (refine hP _ _ _ _ _ _ ?_; conv => whnf)
  by_cases h7 : x' = 7
  · have A2 := A1 h7
    refine br_f (fun z => z (by rw [h7]; rfl)) ?_
    repeat (refine hP _ _ _ _ _ _ ?_; conv => whnf)
    refine ⟨_, _, O2, vp_in_nI (n := 0) (by decide) (by decide), ?_⟩
    repeat (refine hP _ _ _ _ _ _ ?_; conv => whnf)
    refine br_t (lg_cmp0.mpr A2) ?_
    iterate 1 (refine hP _ _ _ _ _ _ ?_; conv => whnf)
    exact K _ S' _ _ _ _ _ I2 (by omega) (by show k + 10 + 0 + 0 ≤ _; omega) (by show n + 472 + 0 + 0 ≤ _; omega)
  · refine br_t (m_ct7 h7) ?_
    iterate 1 (refine hP _ _ _ _ _ _ ?_; conv => whnf)
    exact K _ S' _ _ _ _ _ I2 (by omega) (by show k + 10 + 0 + 0 ≤ _; omega) (by show n + 472 + 0 + 0 ≤ _; omega)
theorem l_setCell (hP : ∀ (pc : Nat) (lv : ac_V) (st : List Value) (h : ac_H) (k n : Nat), ac_lkL (k_law scr) pc P Q lv st h k n → P pc lv st h k n) (hs : scr sa L xs) (hL : L ≤ 3072) (hc : 6 * c + 6 ≤ L) (I : l_I h x mm out ar S) (hm : m_mk S ≤ c) (hk : k ≤ 12 + 198 * c) (hn : n ≤ 18231 + 11080 * c) (K : ∀ h' S' v5 v6 v7 k' n', l_I h' x mm out ar S' → m_mk S' ≤ c + 1 → k' ≤ 12 + 198 * (c + 1) → n' ≤ 18231 + 11080 * (c + 1) → P 1665 [some (.ref sa), some (.ref x), some (.ref mm), some (.ref out), some (.int (nI (6 * c))), v5, v6, v7] [] h' k' n') : ∀ v5 v6 v7, P 957 [some (.ref sa), some (.ref x), some (.ref mm), some (.ref out), some (.int (nI (6 * c))), v5, v6, v7] [] h k n := by
  intro v5 v6 v7
  obtain ⟨⟨ad, ow, hd, hf, C⟩, ⟨ve, el, co, M⟩, ⟨o0, ho⟩, W, n1, n2⟩ := I
  have V := V_setCell (r := (xs (6 * c + 1))) (w := (xs (6 * c + 2))) (c := (xs (6 * c + 3))) (v := (xs (6 * c + 4))) (d := (xs (6 * c + 5))) W
  repeat (refine hP _ _ _ _ _ _ ?_; conv => whnf)
  refine sc_rd hs (nI_add _ 1) (by omega) hL ?_
  repeat (refine hP _ _ _ _ _ _ ?_; conv => whnf)
  refine sc_rd hs (nI_add _ 2) (by omega) hL ?_
  repeat (refine hP _ _ _ _ _ _ ?_; conv => whnf)
  refine sc_rd hs (nI_add _ 3) (by omega) hL ?_
  repeat (refine hP _ _ _ _ _ _ ?_; conv => whnf)
  refine sc_rd hs (nI_add _ 4) (by omega) hL ?_
  repeat (refine hP _ _ _ _ _ _ ?_; conv => whnf)
  refine sc_rd hs (nI_add _ 5) (by omega) hL ?_
  repeat (refine hP _ _ _ _ _ _ ?_; conv => whnf)
  refine ⟨Nat.le_of_ble_eq_true rfl, ?_, ?_, ?_⟩
  · show k + 11 ≤ 603072
    omega
  · show n + 478 ≤ 7207018
    omega
  refine L_setCell C W ?_
  generalize ht : f_setCell S (xs (6 * c + 1)) (xs (6 * c + 2)) (xs (6 * c + 3)) (xs (6 * c + 4)) (xs (6 * c + 5)) = t at V ⊢
  obtain ⟨x', a, S'⟩ := t
  intro h1 CH1 F1
  dsimp only [m_app] at V CH1 ⊢
  obtain ⟨vx, vw, vm⟩ := V
  have O1 := (F1 out (Or.inr (Or.inl rfl))).trans ho
  have M1 := l_md M n1 n2 (fun b hb _ => F1 b hb)
  repeat (refine hP _ _ _ _ _ _ ?_; conv => whnf)
  refine sc_rd hs (nI_add _ 1) (by omega) hL ?_
  repeat (refine hP _ _ _ _ _ _ ?_; conv => whnf)
  refine sc_rd hs (nI_add _ 2) (by omega) hL ?_
  repeat (refine hP _ _ _ _ _ _ ?_; conv => whnf)
  refine sc_rd hs (nI_add _ 3) (by omega) hL ?_
  repeat (refine hP _ _ _ _ _ _ ?_; conv => whnf)
  refine sc_rd hs (nI_add _ 4) (by omega) hL ?_
  repeat (refine hP _ _ _ _ _ _ ?_; conv => whnf)
  refine sc_rd hs (nI_add _ 5) (by omega) hL ?_
  repeat (refine hP _ _ _ _ _ _ ?_; conv => whnf)
  refine ⟨_, M1.1, Nat.le_of_ble_eq_true rfl, ?_, ?_, ?_⟩
  · show k + 11 + 0 ≤ 603072
    omega
  · show n + 478 + 0 ≤ 7207018
    omega
  refine R_setCell M1 W ?_
  rw [ht]
  intro h2 ve2 el2 M2 F2
  dsimp only at M2 ⊢
  obtain ⟨I2, O2⟩ := l_next CH1 vw O1 n1 n2 M2 F2
  repeat (refine hP _ _ _ _ _ _ ?_; conv => whnf)
  refine ⟨_, M2.1, Nat.le_of_ble_eq_true rfl, ?_, ?_, ?_⟩
  · show k + 11 + 0 + 0 ≤ 603072
    omega
  · show n + 478 + 0 + 0 ≤ 7207018
    omega
  refine r_thrown M2 ?_
  repeat (refine hP _ _ _ _ _ _ ?_; conv => whnf)
  refine br_t rfl ?_
  iterate 1 (refine hP _ _ _ _ _ _ ?_; conv => whnf)
  exact K _ S' _ _ _ _ _ I2 (by omega) (by show k + 11 + 0 + 0 ≤ _; omega) (by show n + 478 + 0 + 0 ≤ _; omega)
theorem l_refer (hP : ∀ (pc : Nat) (lv : ac_V) (st : List Value) (h : ac_H) (k n : Nat), ac_lkL (k_law scr) pc P Q lv st h k n → P pc lv st h k n) (hs : scr sa L xs) (hL : L ≤ 3072) (hc : 6 * c + 6 ≤ L) (I : l_I h x mm out ar S) (hm : m_mk S ≤ c) (hk : k ≤ 12 + 198 * c) (hn : n ≤ 18231 + 11080 * c) (K : ∀ h' S' v5 v6 v7 k' n', l_I h' x mm out ar S' → m_mk S' ≤ c + 1 → k' ≤ 12 + 198 * (c + 1) → n' ≤ 18231 + 11080 * (c + 1) → P 1665 [some (.ref sa), some (.ref x), some (.ref mm), some (.ref out), some (.int (nI (6 * c))), v5, v6, v7] [] h' k' n') : ∀ v5 v6 v7, P 1041 [some (.ref sa), some (.ref x), some (.ref mm), some (.ref out), some (.int (nI (6 * c))), v5, v6, v7] [] h k n := by
  intro v5 v6 v7
  obtain ⟨⟨ad, ow, hd, hf, C⟩, ⟨ve, el, co, M⟩, ⟨o0, ho⟩, W, n1, n2⟩ := I
  have V := V_refer (r := (xs (6 * c + 1))) (ix := (xs (6 * c + 2))) (f := (xs (6 * c + 3))) W
  repeat (refine hP _ _ _ _ _ _ ?_; conv => whnf)
  refine sc_rd hs (nI_add _ 1) (by omega) hL ?_
  repeat (refine hP _ _ _ _ _ _ ?_; conv => whnf)
  refine sc_rd hs (nI_add _ 2) (by omega) hL ?_
  repeat (refine hP _ _ _ _ _ _ ?_; conv => whnf)
  refine sc_rd hs (nI_add _ 3) (by omega) hL ?_
  repeat (refine hP _ _ _ _ _ _ ?_; conv => whnf)
  refine ⟨Nat.le_of_ble_eq_true rfl, ?_, ?_, ?_⟩
  · show k + 8 ≤ 603072
    omega
  · show n + 256 ≤ 7207018
    omega
  refine L_refer C W ?_
  generalize ht : f_refer S (xs (6 * c + 1)) (xs (6 * c + 2)) (xs (6 * c + 3)) = t at V ⊢
  obtain ⟨x', a, S'⟩ := t
  intro h1 CH1 F1
  dsimp only [m_app] at V CH1 ⊢
  obtain ⟨vx, vw, vm⟩ := V
  have O1 := (F1 out (Or.inr (Or.inl rfl))).trans ho
  have M1 := l_md M n1 n2 (fun b hb _ => F1 b hb)
  repeat (refine hP _ _ _ _ _ _ ?_; conv => whnf)
  refine sc_rd hs (nI_add _ 1) (by omega) hL ?_
  repeat (refine hP _ _ _ _ _ _ ?_; conv => whnf)
  refine sc_rd hs (nI_add _ 2) (by omega) hL ?_
  repeat (refine hP _ _ _ _ _ _ ?_; conv => whnf)
  refine sc_rd hs (nI_add _ 3) (by omega) hL ?_
  repeat (refine hP _ _ _ _ _ _ ?_; conv => whnf)
  refine ⟨_, M1.1, Nat.le_of_ble_eq_true rfl, ?_, ?_, ?_⟩
  · show k + 8 + 0 ≤ 603072
    omega
  · show n + 256 + 0 ≤ 7207018
    omega
  refine R_refer M1 W ?_
  rw [ht]
  intro h2 ve2 el2 M2 F2
  dsimp only at M2 ⊢
  obtain ⟨I2, O2⟩ := l_next CH1 vw O1 n1 n2 M2 F2
  repeat (refine hP _ _ _ _ _ _ ?_; conv => whnf)
  refine ⟨_, M2.1, Nat.le_of_ble_eq_true rfl, ?_, ?_, ?_⟩
  · show k + 8 + 0 + 0 ≤ 603072
    omega
  · show n + 256 + 0 + 0 ≤ 7207018
    omega
  refine r_thrown M2 ?_
  repeat (refine hP _ _ _ _ _ _ ?_; conv => whnf)
  refine br_t rfl ?_
  iterate 1 (refine hP _ _ _ _ _ _ ?_; conv => whnf)
  exact K _ S' _ _ _ _ _ I2 (by omega) (by show k + 8 + 0 + 0 ≤ _; omega) (by show n + 256 + 0 + 0 ≤ _; omega)
theorem l_fetch (hP : ∀ (pc : Nat) (lv : ac_V) (st : List Value) (h : ac_H) (k n : Nat), ac_lkL (k_law scr) pc P Q lv st h k n → P pc lv st h k n) (hs : scr sa L xs) (hL : L ≤ 3072) (hc : 6 * c + 6 ≤ L) (I : l_I h x mm out ar S) (hm : m_mk S ≤ c) (hk : k ≤ 12 + 198 * c) (hn : n ≤ 18231 + 11080 * c) (K : ∀ h' S' v5 v6 v7 k' n', l_I h' x mm out ar S' → m_mk S' ≤ c + 1 → k' ≤ 12 + 198 * (c + 1) → n' ≤ 18231 + 11080 * (c + 1) → P 1665 [some (.ref sa), some (.ref x), some (.ref mm), some (.ref out), some (.int (nI (6 * c))), v5, v6, v7] [] h' k' n') : ∀ v5 v6 v7, P 1101 [some (.ref sa), some (.ref x), some (.ref mm), some (.ref out), some (.int (nI (6 * c))), v5, v6, v7] [] h k n := by
  intro v5 v6 v7
  obtain ⟨⟨ad, ow, hd, hf, C⟩, ⟨ve, el, co, M⟩, ⟨o0, ho⟩, W, n1, n2⟩ := I
  have V := V_fetch (t := (xs (6 * c + 1))) (r := (xs (6 * c + 2))) (ix := (xs (6 * c + 3))) W
  repeat (refine hP _ _ _ _ _ _ ?_; conv => whnf)
  refine sc_rd hs (nI_add _ 1) (by omega) hL ?_
  repeat (refine hP _ _ _ _ _ _ ?_; conv => whnf)
  refine sc_rd hs (nI_add _ 2) (by omega) hL ?_
  repeat (refine hP _ _ _ _ _ _ ?_; conv => whnf)
  refine sc_rd hs (nI_add _ 3) (by omega) hL ?_
  repeat (refine hP _ _ _ _ _ _ ?_; conv => whnf)
  refine ⟨Nat.le_of_ble_eq_true rfl, ?_, ?_, ?_⟩
  · show k + 8 ≤ 603072
    omega
  · show n + 256 ≤ 7207018
    omega
  refine L_fetch C W (Or.inr (Or.inl rfl)) ho ?_
  generalize ht : f_fetch S (xs (6 * c + 1)) (xs (6 * c + 2)) (xs (6 * c + 3)) = t at V ⊢
  obtain ⟨x', a, S'⟩ := t
  intro h1 o CH1 F1 O1 A1
  dsimp only [m_app] at V CH1 A1 ⊢
  obtain ⟨vx, vw, vm⟩ := V
  have M1 := l_md M n1 n2 F1
  repeat (refine hP _ _ _ _ _ _ ?_; conv => whnf)
  refine sc_rd hs (nI_add _ 1) (by omega) hL ?_
  repeat (refine hP _ _ _ _ _ _ ?_; conv => whnf)
  refine sc_rd hs (nI_add _ 2) (by omega) hL ?_
  repeat (refine hP _ _ _ _ _ _ ?_; conv => whnf)
  refine sc_rd hs (nI_add _ 3) (by omega) hL ?_
  repeat (refine hP _ _ _ _ _ _ ?_; conv => whnf)
  refine ⟨_, M1.1, Nat.le_of_ble_eq_true rfl, ?_, ?_, ?_⟩
  · show k + 8 + 0 ≤ 603072
    omega
  · show n + 256 + 0 ≤ 7207018
    omega
  refine R_fetch M1 W ?_
  rw [ht]
  intro h2 ve2 el2 M2 F2
  dsimp only at M2 ⊢
  obtain ⟨I2, O2⟩ := l_next CH1 vw O1 n1 n2 M2 F2
  repeat (refine hP _ _ _ _ _ _ ?_; conv => whnf)
  refine ⟨_, M2.1, Nat.le_of_ble_eq_true rfl, ?_, ?_, ?_⟩
  · show k + 8 + 0 + 0 ≤ 603072
    omega
  · show n + 256 + 0 + 0 ≤ 7207018
    omega
  refine r_thrown M2 ?_
  repeat (refine hP _ _ _ _ _ _ ?_; conv => whnf)
  refine br_t rfl ?_
  repeat (refine hP _ _ _ _ _ _ ?_; conv => whnf)
  by_cases h7 : x' = 7
  · have A2 := A1 h7
    refine br_f (fun z => z (by rw [h7]; rfl)) ?_
    repeat (refine hP _ _ _ _ _ _ ?_; conv => whnf)
    refine ⟨_, _, O2, vp_in_nI (n := 0) (by decide) (by decide), ?_⟩
    repeat (refine hP _ _ _ _ _ _ ?_; conv => whnf)
    refine br_t (lg_cmp0.mpr A2) ?_
    iterate 1 (refine hP _ _ _ _ _ _ ?_; conv => whnf)
    exact K _ S' _ _ _ _ _ I2 (by omega) (by show k + 8 + 0 + 0 ≤ _; omega) (by show n + 256 + 0 + 0 ≤ _; omega)
  · refine br_t (m_ct7 h7) ?_
    iterate 1 (refine hP _ _ _ _ _ _ ?_; conv => whnf)
    exact K _ S' _ _ _ _ _ I2 (by omega) (by show k + 8 + 0 + 0 ≤ _; omega) (by show n + 256 + 0 + 0 ≤ _; omega)
theorem l_link (hP : ∀ (pc : Nat) (lv : ac_V) (st : List Value) (h : ac_H) (k n : Nat), ac_lkL (k_law scr) pc P Q lv st h k n → P pc lv st h k n) (hs : scr sa L xs) (hL : L ≤ 3072) (hc : 6 * c + 6 ≤ L) (I : l_I h x mm out ar S) (hm : m_mk S ≤ c) (hk : k ≤ 12 + 198 * c) (hn : n ≤ 18231 + 11080 * c) (K : ∀ h' S' v5 v6 v7 k' n', l_I h' x mm out ar S' → m_mk S' ≤ c + 1 → k' ≤ 12 + 198 * (c + 1) → n' ≤ 18231 + 11080 * (c + 1) → P 1665 [some (.ref sa), some (.ref x), some (.ref mm), some (.ref out), some (.int (nI (6 * c))), v5, v6, v7] [] h' k' n') : ∀ v5 v6 v7, P 1181 [some (.ref sa), some (.ref x), some (.ref mm), some (.ref out), some (.int (nI (6 * c))), v5, v6, v7] [] h k n := by
  intro v5 v6 v7
  obtain ⟨⟨ad, ow, hd, hf, C⟩, ⟨ve, el, co, M⟩, ⟨o0, ho⟩, W, n1, n2⟩ := I
  have V := V_link (r := (xs (6 * c + 1))) (t := (xs (6 * c + 2))) W
  repeat (refine hP _ _ _ _ _ _ ?_; conv => whnf)
  refine sc_rd hs (nI_add _ 1) (by omega) hL ?_
  repeat (refine hP _ _ _ _ _ _ ?_; conv => whnf)
  refine sc_rd hs (nI_add _ 2) (by omega) hL ?_
  repeat (refine hP _ _ _ _ _ _ ?_; conv => whnf)
  refine ⟨Nat.le_of_ble_eq_true rfl, ?_, ?_, ?_⟩
  · show k + 5 ≤ 603072
    omega
  · show n + 32 ≤ 7207018
    omega
  refine L_link C W ?_
  generalize ht : f_link S (xs (6 * c + 1)) (xs (6 * c + 2)) = t at V ⊢
  obtain ⟨x', a, S'⟩ := t
  intro h1 CH1 F1
  dsimp only [m_app] at V CH1 ⊢
  obtain ⟨vx, vw, vm⟩ := V
  have O1 := (F1 out (Or.inr (Or.inl rfl))).trans ho
  have M1 := l_md M n1 n2 (fun b hb _ => F1 b hb)
  repeat (refine hP _ _ _ _ _ _ ?_; conv => whnf)
  refine sc_rd hs (nI_add _ 1) (by omega) hL ?_
  repeat (refine hP _ _ _ _ _ _ ?_; conv => whnf)
  refine sc_rd hs (nI_add _ 2) (by omega) hL ?_
  repeat (refine hP _ _ _ _ _ _ ?_; conv => whnf)
  refine ⟨_, M1.1, Nat.le_of_ble_eq_true rfl, ?_, ?_, ?_⟩
  · show k + 5 + 0 ≤ 603072
    omega
  · show n + 32 + 0 ≤ 7207018
    omega
  refine R_link M1 W ?_
  rw [ht]
  intro h2 ve2 el2 M2 F2
  dsimp only at M2 ⊢
  obtain ⟨I2, O2⟩ := l_next CH1 vw O1 n1 n2 M2 F2
  repeat (refine hP _ _ _ _ _ _ ?_; conv => whnf)
  refine ⟨_, M2.1, Nat.le_of_ble_eq_true rfl, ?_, ?_, ?_⟩
  · show k + 5 + 0 + 0 ≤ 603072
    omega
  · show n + 32 + 0 + 0 ≤ 7207018
    omega
  refine r_thrown M2 ?_
  repeat (refine hP _ _ _ _ _ _ ?_; conv => whnf)
  refine br_t rfl ?_
  iterate 1 (refine hP _ _ _ _ _ _ ?_; conv => whnf)
  exact K _ S' _ _ _ _ _ I2 (by omega) (by show k + 5 + 0 + 0 ≤ _; omega) (by show n + 32 + 0 + 0 ≤ _; omega)
theorem l_follow (hP : ∀ (pc : Nat) (lv : ac_V) (st : List Value) (h : ac_H) (k n : Nat), ac_lkL (k_law scr) pc P Q lv st h k n → P pc lv st h k n) (hs : scr sa L xs) (hL : L ≤ 3072) (hc : 6 * c + 6 ≤ L) (I : l_I h x mm out ar S) (hm : m_mk S ≤ c) (hk : k ≤ 12 + 198 * c) (hn : n ≤ 18231 + 11080 * c) (K : ∀ h' S' v5 v6 v7 k' n', l_I h' x mm out ar S' → m_mk S' ≤ c + 1 → k' ≤ 12 + 198 * (c + 1) → n' ≤ 18231 + 11080 * (c + 1) → P 1665 [some (.ref sa), some (.ref x), some (.ref mm), some (.ref out), some (.int (nI (6 * c))), v5, v6, v7] [] h' k' n') : ∀ v5 v6 v7, P 1229 [some (.ref sa), some (.ref x), some (.ref mm), some (.ref out), some (.int (nI (6 * c))), v5, v6, v7] [] h k n := by
  intro v5 v6 v7
  obtain ⟨⟨ad, ow, hd, hf, C⟩, ⟨ve, el, co, M⟩, ⟨o0, ho⟩, W, n1, n2⟩ := I
  have V := V_follow (t := (xs (6 * c + 1))) (r := (xs (6 * c + 2))) W
  repeat (refine hP _ _ _ _ _ _ ?_; conv => whnf)
  refine sc_rd hs (nI_add _ 1) (by omega) hL ?_
  repeat (refine hP _ _ _ _ _ _ ?_; conv => whnf)
  refine sc_rd hs (nI_add _ 2) (by omega) hL ?_
  repeat (refine hP _ _ _ _ _ _ ?_; conv => whnf)
  refine ⟨Nat.le_of_ble_eq_true rfl, ?_, ?_, ?_⟩
  · show k + 4 ≤ 603072
    omega
  · show n + 26 ≤ 7207018
    omega
  refine L_follow C W (Or.inr (Or.inl rfl)) ho ?_
  generalize ht : f_follow S (xs (6 * c + 1)) (xs (6 * c + 2)) = t at V ⊢
  obtain ⟨x', a, S'⟩ := t
  intro h1 o CH1 F1 O1 A1
  dsimp only [m_app] at V CH1 A1 ⊢
  obtain ⟨vx, vw, vm, va⟩ := V
  have M1 := l_md M n1 n2 F1
  repeat (refine hP _ _ _ _ _ _ ?_; conv => whnf)
  refine sc_rd hs (nI_add _ 1) (by omega) hL ?_
  repeat (refine hP _ _ _ _ _ _ ?_; conv => whnf)
  refine sc_rd hs (nI_add _ 2) (by omega) hL ?_
  repeat (refine hP _ _ _ _ _ _ ?_; conv => whnf)
  refine ⟨_, M1.1, Nat.le_of_ble_eq_true rfl, ?_, ?_, ?_⟩
  · show k + 4 + 0 ≤ 603072
    omega
  · show n + 26 + 0 ≤ 7207018
    omega
  refine R_follow M1 W ?_
  rw [ht]
  intro h2 ve2 el2 M2 F2
  dsimp only at M2 ⊢
  obtain ⟨I2, O2⟩ := l_next CH1 vw O1 n1 n2 M2 F2
  repeat (refine hP _ _ _ _ _ _ ?_; conv => whnf)
  refine ⟨_, M2.1, Nat.le_of_ble_eq_true rfl, ?_, ?_, ?_⟩
  · show k + 4 + 0 + 0 ≤ 603072
    omega
  · show n + 26 + 0 + 0 ≤ 7207018
    omega
  refine r_thrown M2 ?_
  repeat (refine hP _ _ _ _ _ _ ?_; conv => whnf)
  refine br_t rfl ?_
  repeat (refine hP _ _ _ _ _ _ ?_; conv => whnf)
  by_cases h7 : x' = 7
  · have A2 := A1 h7
    refine br_f (fun z => z (by rw [h7]; rfl)) ?_
    repeat (refine hP _ _ _ _ _ _ ?_; conv => whnf)
    refine ⟨_, _, O2, vp_in_nI (n := 0) (by decide) (by decide), ?_⟩
    rcases va with e | e
    · subst e
      repeat (refine hP _ _ _ _ _ _ ?_; conv => whnf)
      refine ⟨fun _ => ?_, fun q => absurd (by decide) q⟩
      repeat (refine hP _ _ _ _ _ _ ?_; conv => whnf)
      refine br_t (lg_cmp0.mpr A2) ?_
      iterate 1 (refine hP _ _ _ _ _ _ ?_; conv => whnf)
      exact K _ S' _ _ _ _ _ I2 (by omega) (by show k + 4 + 0 + 0 ≤ _; omega) (by show n + 26 + 0 + 0 ≤ _; omega)
    · subst e
      repeat (refine hP _ _ _ _ _ _ ?_; conv => whnf)
      refine ⟨fun q => absurd q (by decide), fun _ => ?_⟩
      repeat (refine hP _ _ _ _ _ _ ?_; conv => whnf)
      refine br_t (lg_cmp0.mpr A2) ?_
      iterate 1 (refine hP _ _ _ _ _ _ ?_; conv => whnf)
      exact K _ S' _ _ _ _ _ I2 (by omega) (by show k + 4 + 0 + 0 ≤ _; omega) (by show n + 26 + 0 + 0 ≤ _; omega)
  · refine br_t (m_ct7 h7) ?_
    iterate 1 (refine hP _ _ _ _ _ _ ?_; conv => whnf)
    exact K _ S' _ _ _ _ _ I2 (by omega) (by show k + 4 + 0 + 0 ≤ _; omega) (by show n + 26 + 0 + 0 ≤ _; omega)
theorem l_exchange (hP : ∀ (pc : Nat) (lv : ac_V) (st : List Value) (h : ac_H) (k n : Nat), ac_lkL (k_law scr) pc P Q lv st h k n → P pc lv st h k n) (hs : scr sa L xs) (hL : L ≤ 3072) (hc : 6 * c + 6 ≤ L) (I : l_I h x mm out ar S) (hm : m_mk S ≤ c) (hk : k ≤ 12 + 198 * c) (hn : n ≤ 18231 + 11080 * c) (K : ∀ h' S' v5 v6 v7 k' n', l_I h' x mm out ar S' → m_mk S' ≤ c + 1 → k' ≤ 12 + 198 * (c + 1) → n' ≤ 18231 + 11080 * (c + 1) → P 1665 [some (.ref sa), some (.ref x), some (.ref mm), some (.ref out), some (.int (nI (6 * c))), v5, v6, v7] [] h' k' n') : ∀ v5 v6 v7, P 1304 [some (.ref sa), some (.ref x), some (.ref mm), some (.ref out), some (.int (nI (6 * c))), v5, v6, v7] [] h k n := by
  intro v5 v6 v7
  obtain ⟨⟨ad, ow, hd, hf, C⟩, ⟨ve, el, co, M⟩, ⟨o0, ho⟩, W, n1, n2⟩ := I
  have V := V_exchange (r := (xs (6 * c + 1))) (v := (((xs (6 * c + 2)).toInt64 <<< ((32 : Int32).toInt64 &&& 63)) ||| ((xs (6 * c + 3)).toInt64 &&& 4294967295))) W
  repeat (refine hP _ _ _ _ _ _ ?_; conv => whnf)
  refine sc_rd hs (nI_add _ 1) (by omega) hL ?_
  repeat (refine hP _ _ _ _ _ _ ?_; conv => whnf)
  refine sc_rd hs (nI_add _ 2) (by omega) hL ?_
  repeat (refine hP _ _ _ _ _ _ ?_; conv => whnf)
  refine sc_rd hs (nI_add _ 3) (by omega) hL ?_
  repeat (refine hP _ _ _ _ _ _ ?_; conv => whnf)
  refine ⟨Nat.le_of_ble_eq_true rfl, ?_, ?_, ?_⟩
  · show k + 3 ≤ 603072
    omega
  · show n + 20 ≤ 7207018
    omega
  refine L_exchange C W (Or.inr (Or.inl rfl)) ho ?_
  generalize ht : f_exchange S (xs (6 * c + 1)) (((xs (6 * c + 2)).toInt64 <<< ((32 : Int32).toInt64 &&& 63)) ||| ((xs (6 * c + 3)).toInt64 &&& 4294967295)) = t at V ⊢
  obtain ⟨x', a, S'⟩ := t
  intro h1 o CH1 F1 O1 A1
  dsimp only [m_app] at V CH1 A1 ⊢
  obtain ⟨vx, vw, vm⟩ := V
  have M1 := l_md M n1 n2 F1
  repeat (refine hP _ _ _ _ _ _ ?_; conv => whnf)
  refine sc_rd hs (nI_add _ 1) (by omega) hL ?_
  repeat (refine hP _ _ _ _ _ _ ?_; conv => whnf)
  refine sc_rd hs (nI_add _ 2) (by omega) hL ?_
  repeat (refine hP _ _ _ _ _ _ ?_; conv => whnf)
  refine sc_rd hs (nI_add _ 3) (by omega) hL ?_
  repeat (refine hP _ _ _ _ _ _ ?_; conv => whnf)
  refine ⟨_, M1.1, Nat.le_of_ble_eq_true rfl, ?_, ?_, ?_⟩
  · show k + 3 + 0 ≤ 603072
    omega
  · show n + 20 + 0 ≤ 7207018
    omega
  refine R_exchange M1 W ?_
  rw [ht]
  intro h2 ve2 el2 M2 F2
  dsimp only at M2 ⊢
  obtain ⟨I2, O2⟩ := l_next CH1 vw O1 n1 n2 M2 F2
  repeat (refine hP _ _ _ _ _ _ ?_; conv => whnf)
  refine ⟨_, M2.1, Nat.le_of_ble_eq_true rfl, ?_, ?_, ?_⟩
  · show k + 3 + 0 + 0 ≤ 603072
    omega
  · show n + 20 + 0 + 0 ≤ 7207018
    omega
  refine r_thrown M2 ?_
  repeat (refine hP _ _ _ _ _ _ ?_; conv => whnf)
  refine br_t rfl ?_
  repeat (refine hP _ _ _ _ _ _ ?_; conv => whnf)
  by_cases h7 : x' = 7
  · have A2 := A1 h7
    refine br_f (fun z => z (by rw [h7]; rfl)) ?_
    repeat (refine hP _ _ _ _ _ _ ?_; conv => whnf)
    refine ⟨_, _, O2, vp_in_nI (n := 0) (by decide) (by decide), ?_⟩
    repeat (refine hP _ _ _ _ _ _ ?_; conv => whnf)
    refine br_t (lg_cmp0.mpr A2) ?_
    iterate 1 (refine hP _ _ _ _ _ _ ?_; conv => whnf)
    exact K _ S' _ _ _ _ _ I2 (by omega) (by show k + 3 + 0 + 0 ≤ _; omega) (by show n + 20 + 0 + 0 ≤ _; omega)
  · refine br_t (m_ct7 h7) ?_
    iterate 1 (refine hP _ _ _ _ _ _ ?_; conv => whnf)
    exact K _ S' _ _ _ _ _ I2 (by omega) (by show k + 3 + 0 + 0 ≤ _; omega) (by show n + 20 + 0 + 0 ≤ _; omega)
theorem l_total (hP : ∀ (pc : Nat) (lv : ac_V) (st : List Value) (h : ac_H) (k n : Nat), ac_lkL (k_law scr) pc P Q lv st h k n → P pc lv st h k n) (hs : scr sa L xs) (hL : L ≤ 3072) (hc : 6 * c + 6 ≤ L) (I : l_I h x mm out ar S) (hm : m_mk S ≤ c) (hk : k ≤ 12 + 198 * c) (hn : n ≤ 18231 + 11080 * c) (K : ∀ h' S' v5 v6 v7 k' n', l_I h' x mm out ar S' → m_mk S' ≤ c + 1 → k' ≤ 12 + 198 * (c + 1) → n' ≤ 18231 + 11080 * (c + 1) → P 1665 [some (.ref sa), some (.ref x), some (.ref mm), some (.ref out), some (.int (nI (6 * c))), v5, v6, v7] [] h' k' n') : ∀ v5 v6 v7, P 1403 [some (.ref sa), some (.ref x), some (.ref mm), some (.ref out), some (.int (nI (6 * c))), v5, v6, v7] [] h k n := by
  intro v5 v6 v7
  obtain ⟨⟨ad, ow, hd, hf, C⟩, ⟨ve, el, co, M⟩, ⟨o0, ho⟩, W, n1, n2⟩ := I
  have V := V_total (r := (xs (6 * c + 1))) W
  repeat (refine hP _ _ _ _ _ _ ?_; conv => whnf)
  refine sc_rd hs (nI_add _ 1) (by omega) hL ?_
  repeat (refine hP _ _ _ _ _ _ ?_; conv => whnf)
  refine ⟨Nat.le_of_ble_eq_true rfl, ?_, ?_, ?_⟩
  · show k + 3 ≤ 603072
    omega
  · show n + 20 ≤ 7207018
    omega
  refine L_total C W (Or.inr (Or.inl rfl)) ho ?_
  generalize ht : f_total S (xs (6 * c + 1)) = t at V ⊢
  obtain ⟨x', a, S'⟩ := t
  intro h1 o CH1 F1 O1 A1
  dsimp only [m_app] at V CH1 A1 ⊢
  obtain ⟨vx, vw, vm⟩ := V
  have M1 := l_md M n1 n2 F1
  repeat (refine hP _ _ _ _ _ _ ?_; conv => whnf)
  refine sc_rd hs (nI_add _ 1) (by omega) hL ?_
  repeat (refine hP _ _ _ _ _ _ ?_; conv => whnf)
  refine ⟨_, M1.1, Nat.le_of_ble_eq_true rfl, ?_, ?_, ?_⟩
  · show k + 3 + 0 ≤ 603072
    omega
  · show n + 20 + 0 ≤ 7207018
    omega
  refine R_total M1 W ?_
  rw [ht]
  intro h2 ve2 el2 M2 F2
  dsimp only at M2 ⊢
  obtain ⟨I2, O2⟩ := l_next CH1 vw O1 n1 n2 M2 F2
  repeat (refine hP _ _ _ _ _ _ ?_; conv => whnf)
  refine ⟨_, M2.1, Nat.le_of_ble_eq_true rfl, ?_, ?_, ?_⟩
  · show k + 3 + 0 + 0 ≤ 603072
    omega
  · show n + 20 + 0 + 0 ≤ 7207018
    omega
  refine r_thrown M2 ?_
  repeat (refine hP _ _ _ _ _ _ ?_; conv => whnf)
  refine br_t rfl ?_
  repeat (refine hP _ _ _ _ _ _ ?_; conv => whnf)
  by_cases h7 : x' = 7
  · have A2 := A1 h7
    refine br_f (fun z => z (by rw [h7]; rfl)) ?_
    repeat (refine hP _ _ _ _ _ _ ?_; conv => whnf)
    refine ⟨_, _, O2, vp_in_nI (n := 0) (by decide) (by decide), ?_⟩
    repeat (refine hP _ _ _ _ _ _ ?_; conv => whnf)
    refine br_t (lg_cmp0.mpr A2) ?_
    iterate 1 (refine hP _ _ _ _ _ _ ?_; conv => whnf)
    exact K _ S' _ _ _ _ _ I2 (by omega) (by show k + 3 + 0 + 0 ≤ _; omega) (by show n + 20 + 0 + 0 ≤ _; omega)
  · refine br_t (m_ct7 h7) ?_
    iterate 1 (refine hP _ _ _ _ _ _ ?_; conv => whnf)
    exact K _ S' _ _ _ _ _ I2 (by omega) (by show k + 3 + 0 + 0 ≤ _; omega) (by show n + 20 + 0 + 0 ≤ _; omega)
theorem l_combine (hP : ∀ (pc : Nat) (lv : ac_V) (st : List Value) (h : ac_H) (k n : Nat), ac_lkL (k_law scr) pc P Q lv st h k n → P pc lv st h k n) (hs : scr sa L xs) (hL : L ≤ 3072) (hc : 6 * c + 6 ≤ L) (I : l_I h x mm out ar S) (hm : m_mk S ≤ c) (hk : k ≤ 12 + 198 * c) (hn : n ≤ 18231 + 11080 * c) (K : ∀ h' S' v5 v6 v7 k' n', l_I h' x mm out ar S' → m_mk S' ≤ c + 1 → k' ≤ 12 + 198 * (c + 1) → n' ≤ 18231 + 11080 * (c + 1) → P 1665 [some (.ref sa), some (.ref x), some (.ref mm), some (.ref out), some (.int (nI (6 * c))), v5, v6, v7] [] h' k' n') : ∀ v5 v6 v7, P 1458 [some (.ref sa), some (.ref x), some (.ref mm), some (.ref out), some (.int (nI (6 * c))), v5, v6, v7] [] h k n := by
  intro v5 v6 v7
  obtain ⟨⟨ad, ow, hd, hf, C⟩, ⟨ve, el, co, M⟩, ⟨o0, ho⟩, W, n1, n2⟩ := I
  have V := V_combine (op := (xs (6 * c + 1))) (r := (xs (6 * c + 2))) (ix := (xs (6 * c + 3))) (o := (xs (6 * c + 4))) (at' := (xs (6 * c + 5))) W
  repeat (refine hP _ _ _ _ _ _ ?_; conv => whnf)
  refine sc_rd hs (nI_add _ 1) (by omega) hL ?_
  repeat (refine hP _ _ _ _ _ _ ?_; conv => whnf)
  refine sc_rd hs (nI_add _ 2) (by omega) hL ?_
  repeat (refine hP _ _ _ _ _ _ ?_; conv => whnf)
  refine sc_rd hs (nI_add _ 3) (by omega) hL ?_
  repeat (refine hP _ _ _ _ _ _ ?_; conv => whnf)
  refine sc_rd hs (nI_add _ 4) (by omega) hL ?_
  repeat (refine hP _ _ _ _ _ _ ?_; conv => whnf)
  refine sc_rd hs (nI_add _ 5) (by omega) hL ?_
  repeat (refine hP _ _ _ _ _ _ ?_; conv => whnf)
  refine ⟨Nat.le_of_ble_eq_true rfl, ?_, ?_, ?_⟩
  · show k + 20 ≤ 603072
    omega
  · show n + 742 ≤ 7207018
    omega
  refine L_combine C W (Or.inr (Or.inl rfl)) ho ?_
  generalize ht : f_combine S (xs (6 * c + 1)) (xs (6 * c + 2)) (xs (6 * c + 3)) (xs (6 * c + 4)) (xs (6 * c + 5)) = t at V ⊢
  obtain ⟨x', a, S'⟩ := t
  intro h1 o CH1 F1 O1 A1
  dsimp only [m_app] at V CH1 A1 ⊢
  obtain ⟨vx, vw, vm⟩ := V
  have M1 := l_md M n1 n2 F1
  repeat (refine hP _ _ _ _ _ _ ?_; conv => whnf)
  refine sc_rd hs (nI_add _ 1) (by omega) hL ?_
  repeat (refine hP _ _ _ _ _ _ ?_; conv => whnf)
  refine sc_rd hs (nI_add _ 2) (by omega) hL ?_
  repeat (refine hP _ _ _ _ _ _ ?_; conv => whnf)
  refine sc_rd hs (nI_add _ 3) (by omega) hL ?_
  repeat (refine hP _ _ _ _ _ _ ?_; conv => whnf)
  refine sc_rd hs (nI_add _ 4) (by omega) hL ?_
  repeat (refine hP _ _ _ _ _ _ ?_; conv => whnf)
  refine sc_rd hs (nI_add _ 5) (by omega) hL ?_
  repeat (refine hP _ _ _ _ _ _ ?_; conv => whnf)
  refine ⟨_, M1.1, Nat.le_of_ble_eq_true rfl, ?_, ?_, ?_⟩
  · show k + 20 + 0 ≤ 603072
    omega
  · show n + 742 + 0 ≤ 7207018
    omega
  refine R_combine M1 W ?_
  rw [ht]
  intro h2 ve2 el2 M2 F2
  dsimp only at M2 ⊢
  obtain ⟨I2, O2⟩ := l_next CH1 vw O1 n1 n2 M2 F2
  repeat (refine hP _ _ _ _ _ _ ?_; conv => whnf)
  refine ⟨_, M2.1, Nat.le_of_ble_eq_true rfl, ?_, ?_, ?_⟩
  · show k + 20 + 0 + 0 ≤ 603072
    omega
  · show n + 742 + 0 + 0 ≤ 7207018
    omega
  refine r_thrown M2 ?_
  repeat (refine hP _ _ _ _ _ _ ?_; conv => whnf)
  refine br_t rfl ?_
  repeat (refine hP _ _ _ _ _ _ ?_; conv => whnf)
  by_cases h7 : x' = 7
  · have A2 := A1 h7
    refine br_f (fun z => z (by rw [h7]; rfl)) ?_
    repeat (refine hP _ _ _ _ _ _ ?_; conv => whnf)
    refine ⟨_, _, O2, vp_in_nI (n := 0) (by decide) (by decide), ?_⟩
    repeat (refine hP _ _ _ _ _ _ ?_; conv => whnf)
    refine br_t (lg_cmp0.mpr A2) ?_
    iterate 1 (refine hP _ _ _ _ _ _ ?_; conv => whnf)
    exact K _ S' _ _ _ _ _ I2 (by omega) (by show k + 20 + 0 + 0 ≤ _; omega) (by show n + 742 + 0 + 0 ≤ _; omega)
  · refine br_t (m_ct7 h7) ?_
    iterate 1 (refine hP _ _ _ _ _ _ ?_; conv => whnf)
    exact K _ S' _ _ _ _ _ I2 (by omega) (by show k + 20 + 0 + 0 ≤ _; omega) (by show n + 742 + 0 + 0 ≤ _; omega)
theorem l_move (hP : ∀ (pc : Nat) (lv : ac_V) (st : List Value) (h : ac_H) (k n : Nat), ac_lkL (k_law scr) pc P Q lv st h k n → P pc lv st h k n) (hs : scr sa L xs) (hL : L ≤ 3072) (hc : 6 * c + 6 ≤ L) (I : l_I h x mm out ar S) (hm : m_mk S ≤ c) (hk : k ≤ 12 + 198 * c) (hn : n ≤ 18231 + 11080 * c) (K : ∀ h' S' v5 v6 v7 k' n', l_I h' x mm out ar S' → m_mk S' ≤ c + 1 → k' ≤ 12 + 198 * (c + 1) → n' ≤ 18231 + 11080 * (c + 1) → P 1665 [some (.ref sa), some (.ref x), some (.ref mm), some (.ref out), some (.int (nI (6 * c))), v5, v6, v7] [] h' k' n') : ∀ v5 v6 v7, P 1561 [some (.ref sa), some (.ref x), some (.ref mm), some (.ref out), some (.int (nI (6 * c))), v5, v6, v7] [] h k n := by
  intro v5 v6 v7
  obtain ⟨⟨ad, ow, hd, hf, C⟩, ⟨ve, el, co, M⟩, ⟨o0, ho⟩, W, n1, n2⟩ := I
  have V := V_move (r := (xs (6 * c + 1))) (ix := (xs (6 * c + 2))) (o := (xs (6 * c + 3))) (at' := (xs (6 * c + 4))) (n := (xs (6 * c + 5))) W
  repeat (refine hP _ _ _ _ _ _ ?_; conv => whnf)
  refine sc_rd hs (nI_add _ 1) (by omega) hL ?_
  repeat (refine hP _ _ _ _ _ _ ?_; conv => whnf)
  refine sc_rd hs (nI_add _ 2) (by omega) hL ?_
  repeat (refine hP _ _ _ _ _ _ ?_; conv => whnf)
  refine sc_rd hs (nI_add _ 3) (by omega) hL ?_
  repeat (refine hP _ _ _ _ _ _ ?_; conv => whnf)
  refine sc_rd hs (nI_add _ 4) (by omega) hL ?_
  repeat (refine hP _ _ _ _ _ _ ?_; conv => whnf)
  refine sc_rd hs (nI_add _ 5) (by omega) hL ?_
  repeat (refine hP _ _ _ _ _ _ ?_; conv => whnf)
  refine ⟨Nat.le_of_ble_eq_true rfl, ?_, ?_, ?_⟩
  · show k + 198 ≤ 603072
    omega
  · show n + 11080 ≤ 7207018
    omega
  refine L_move C W (Or.inr (Or.inl rfl)) ho ?_
  generalize ht : f_move S (xs (6 * c + 1)) (xs (6 * c + 2)) (xs (6 * c + 3)) (xs (6 * c + 4)) (xs (6 * c + 5)) = t at V ⊢
  obtain ⟨x', a, S'⟩ := t
  intro h1 o CH1 F1 O1 A1
  dsimp only [m_app] at V CH1 A1 ⊢
  obtain ⟨vx, vw, vm⟩ := V
  have M1 := l_md M n1 n2 F1
  repeat (refine hP _ _ _ _ _ _ ?_; conv => whnf)
  refine sc_rd hs (nI_add _ 1) (by omega) hL ?_
  repeat (refine hP _ _ _ _ _ _ ?_; conv => whnf)
  refine sc_rd hs (nI_add _ 2) (by omega) hL ?_
  repeat (refine hP _ _ _ _ _ _ ?_; conv => whnf)
  refine sc_rd hs (nI_add _ 3) (by omega) hL ?_
  repeat (refine hP _ _ _ _ _ _ ?_; conv => whnf)
  refine sc_rd hs (nI_add _ 4) (by omega) hL ?_
  repeat (refine hP _ _ _ _ _ _ ?_; conv => whnf)
  refine sc_rd hs (nI_add _ 5) (by omega) hL ?_
  repeat (refine hP _ _ _ _ _ _ ?_; conv => whnf)
  refine ⟨_, M1.1, Nat.le_of_ble_eq_true rfl, ?_, ?_, ?_⟩
  · show k + 198 + 0 ≤ 603072
    omega
  · show n + 11080 + 0 ≤ 7207018
    omega
  refine R_move M1 W ?_
  rw [ht]
  intro h2 ve2 el2 M2 F2
  dsimp only at M2 ⊢
  obtain ⟨I2, O2⟩ := l_next CH1 vw O1 n1 n2 M2 F2
  repeat (refine hP _ _ _ _ _ _ ?_; conv => whnf)
  refine ⟨_, M2.1, Nat.le_of_ble_eq_true rfl, ?_, ?_, ?_⟩
  · show k + 198 + 0 + 0 ≤ 603072
    omega
  · show n + 11080 + 0 + 0 ≤ 7207018
    omega
  refine r_thrown M2 ?_
  repeat (refine hP _ _ _ _ _ _ ?_; conv => whnf)
  refine br_t rfl ?_
  repeat (refine hP _ _ _ _ _ _ ?_; conv => whnf)
  by_cases h7 : x' = 7
  · have A2 := A1 h7
    refine br_f (fun z => z (by rw [h7]; rfl)) ?_
    repeat (refine hP _ _ _ _ _ _ ?_; conv => whnf)
    refine ⟨_, _, O2, vp_in_nI (n := 0) (by decide) (by decide), ?_⟩
    repeat (refine hP _ _ _ _ _ _ ?_; conv => whnf)
    refine br_t (lg_cmp0.mpr A2) ?_
    iterate 1 (refine hP _ _ _ _ _ _ ?_; conv => whnf)
    exact K _ S' _ _ _ _ _ I2 (by omega) (by show k + 198 + 0 + 0 ≤ _; omega) (by show n + 11080 + 0 + 0 ≤ _; omega)
  · refine br_t (m_ct7 h7) ?_
    iterate 1 (refine hP _ _ _ _ _ _ ?_; conv => whnf)
    exact K _ S' _ _ _ _ _ I2 (by omega) (by show k + 198 + 0 + 0 ≤ _; omega) (by show n + 11080 + 0 + 0 ≤ _; omega)
end LAWP
