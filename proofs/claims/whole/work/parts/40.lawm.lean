/-! ===== the law whole ===== -/
theorem nI_m6 {L c : Nat} (hL : L ≤ 3072) (hc : 6 * c ≤ 6000) : nI L - 6 < nI (6 * c) ↔ L < 6 * c + 6 := by
  have h1 : (nI L).toInt = (L : Int) := nI_toInt (by omega)
  have h2 : (nI (6 * c)).toInt = ((6 * c : Nat) : Int) := nI_toInt (by omega)
  have h6 : (6 : Int32).toInt = 6 := by decide
  rw [Int32.lt_iff_toInt_lt, Int32.toInt_sub, h1, h2, h6, Int.bmod_def]
  split <;> omega
theorem law_vc {scr : Nat → Nat → (Nat → Int32) → Prop} {sa L : Nat} {xs : Nat → Int32} (hs : scr sa L xs) (hL : L ≤ 3072) : ac_vcL (k_law scr) 8 [.ref sa] (fun _ => none) (fun o _ => o = .inl (some (.int 1))) := by
  (intro P hP; conv => whnf)
  have LP : ∀ d c S h k n x mm out ar, 6 * c + d = 6 * 513 → l_I h x mm out ar S → m_mk S ≤ c → k ≤ 12 + 198 * c → n ≤ 18231 + 11080 * c → ∀ v5 v6 v7, P 23 [some (.ref sa), some (.ref x), some (.ref mm), some (.ref out), some (.int (nI (6 * c))), v5, v6, v7] [] h k n := by
    intro d
    induction d using Nat.strongRecOn with
    | ind d ih =>
      intro c S h k n x mm out ar hd I hm hk hn v5 v6 v7
      repeat (refine hP _ _ _ _ _ _ ?_; conv => whnf)
      refine ⟨_, _, hs, ?_⟩
      repeat (refine hP _ _ _ _ _ _ ?_; conv => whnf)
      refine ⟨fun q => ?_, fun q => ?_⟩
      · repeat (refine hP _ _ _ _ _ _ ?_; conv => whnf)
        refine ⟨rfl, Or.inr rfl, rfl, ?_, ?_⟩
        · show k ≤ 603072
          omega
        · show n ≤ 7207018
          omega
      · have hc : 6 * c + 6 ≤ L := by
          have : ¬ L < 6 * c + 6 := fun z => q ((nI_m6 hL (by omega)).mpr z)
          omega
        have N : ∀ h' S' v5 v6 v7 k' n', l_I h' x mm out ar S' → m_mk S' ≤ c + 1 → k' ≤ 12 + 198 * (c + 1) → n' ≤ 18231 + 11080 * (c + 1) → P 1665 [some (.ref sa), some (.ref x), some (.ref mm), some (.ref out), some (.int (nI (6 * c))), v5, v6, v7] [] h' k' n' := by
          intro h' S' v5 v6 v7 k' n' I' hm' hk' hn'
          iterate 2 (refine hP _ _ _ _ _ _ ?_; conv => whnf)
          have e := ih (d - 6) (by omega) (c + 1) S' h' k' n' x mm out ar (by omega) I' hm' hk' hn' v5 v6 v7
          rw [show 6 * (c + 1) = 6 * c + 6 by omega, ← nI_add] at e
          exact e
        repeat (refine hP _ _ _ _ _ _ ?_; conv => whnf)
        refine sc_rd hs rfl (by omega) hL ?_
        repeat (refine hP _ _ _ _ _ _ ?_; conv => whnf)
        refine ⟨?_, fun _ => N _ S _ _ _ _ _ I (by omega) (by omega) (by omega)⟩
        (conv => whnf)
        refine ⟨fun _ => l_make hP hs hL hc I hm hk hn N v5 v6 v7, ?_⟩
        (conv => whnf)
        refine ⟨fun _ => l_grid hP hs hL hc I hm hk hn N v5 v6 v7, ?_⟩
        (conv => whnf)
        refine ⟨fun _ => l_record hP hs hL hc I hm hk hn N v5 v6 v7, ?_⟩
        (conv => whnf)
        refine ⟨fun _ => l_window hP hs hL hc I hm hk hn N v5 v6 v7, ?_⟩
        (conv => whnf)
        refine ⟨fun _ => l_copy hP hs hL hc I hm hk hn N v5 v6 v7, ?_⟩
        (conv => whnf)
        refine ⟨fun _ => l_lose hP hs hL hc I hm hk hn N v5 v6 v7, ?_⟩
        (conv => whnf)
        refine ⟨fun _ => l_resize hP hs hL hc I hm hk hn N v5 v6 v7, ?_⟩
        (conv => whnf)
        refine ⟨fun _ => l_size hP hs hL hc I hm hk hn N v5 v6 v7, ?_⟩
        (conv => whnf)
        refine ⟨fun _ => l_take hP hs hL hc I hm hk hn N v5 v6 v7, ?_⟩
        (conv => whnf)
        refine ⟨fun _ => l_put hP hs hL hc I hm hk hn N v5 v6 v7, ?_⟩
        (conv => whnf)
        refine ⟨fun _ => l_cell hP hs hL hc I hm hk hn N v5 v6 v7, ?_⟩
        (conv => whnf)
        refine ⟨fun _ => l_setCell hP hs hL hc I hm hk hn N v5 v6 v7, ?_⟩
        (conv => whnf)
        refine ⟨fun _ => l_refer hP hs hL hc I hm hk hn N v5 v6 v7, ?_⟩
        (conv => whnf)
        refine ⟨fun _ => l_fetch hP hs hL hc I hm hk hn N v5 v6 v7, ?_⟩
        (conv => whnf)
        refine ⟨fun _ => l_link hP hs hL hc I hm hk hn N v5 v6 v7, ?_⟩
        (conv => whnf)
        refine ⟨fun _ => l_follow hP hs hL hc I hm hk hn N v5 v6 v7, ?_⟩
        (conv => whnf)
        refine ⟨fun _ => l_exchange hP hs hL hc I hm hk hn N v5 v6 v7, ?_⟩
        (conv => whnf)
        refine ⟨fun _ => l_total hP hs hL hc I hm hk hn N v5 v6 v7, ?_⟩
        (conv => whnf)
        refine ⟨fun _ => l_combine hP hs hL hc I hm hk hn N v5 v6 v7, ?_⟩
        (conv => whnf)
        refine ⟨fun _ => l_move hP hs hL hc I hm hk hn N v5 v6 v7, ?_⟩
        exact True.intro
  repeat (refine hP _ _ _ _ _ _ ?_; conv => whnf)
  refine ⟨Nat.le_of_ble_eq_true rfl, Nat.le_of_ble_eq_true rfl, fun x hx => ?_⟩
  repeat (refine hP _ _ _ _ _ _ ?_; conv => whnf)
  refine ⟨Nat.le_of_ble_eq_true rfl, Nat.le_of_ble_eq_true rfl, Nat.le_of_ble_eq_true rfl, ?_⟩
  refine sp_X5_init ac_hsE (fun h1 hd d1 d2 d3 d4 => ?_)
  repeat (refine hP _ _ _ _ _ _ ?_; conv => whnf)
  refine ⟨Nat.le_of_ble_eq_true rfl, Nat.le_of_ble_eq_true rfl, fun mm hmm => ?_⟩
  repeat (refine hP _ _ _ _ _ _ ?_; conv => whnf)
  refine ⟨Nat.le_of_ble_eq_true rfl, Nat.le_of_ble_eq_true rfl, Nat.le_of_ble_eq_true rfl, ?_⟩
  refine sp_X6_init ac_hsE (fun h2 ar a1 M F => ?_)
  repeat (refine hP _ _ _ _ _ _ ?_; conv => whnf)
  refine ⟨by decide, 1, by decide, by decide, Nat.le_of_ble_eq_true rfl, Nat.le_of_ble_eq_true rfl, fun out hout => ?_⟩
  iterate 3 (refine hP _ _ _ _ _ _ ?_; conv => whnf)
  have xm : x ≠ mm := fun z => by rw [← z, d2] at hmm; cases hmm
  have dm : hd ≠ mm := fun z => by rw [← z, d3] at hmm; cases hmm
  have xa : ∀ j, j < 8 → x ≠ ar j := fun j hj z => by
    have := a1 j hj
    rw [← z, ac_hsN xm, d2] at this
    cases this
  have da : ∀ j, j < 8 → hd ≠ ar j := fun j hj z => by
    have := a1 j hj
    rw [← z, ac_hsN dm, d3] at this
    cases this
  have x2 : h2 x = some (.inl (8, [.ref hd, .int 0])) := (F x xm xa).trans ((ac_hsN xm).trans d2)
  have e2 : h2 hd = some (.inr (3, 8, .inr (.inr (fun _ => none)))) := (F hd dm da).trans ((ac_hsN dm).trans d3)
  have xo : x ≠ out := fun z => by rw [← z, x2] at hout; cases hout
  have eo : hd ≠ out := fun z => by rw [← z, e2] at hout; cases hout
  have mo : mm ≠ out := fun z => by have := M.1; rw [z, hout] at this; cases this
  have ao : ∀ j, j < 8 → ar j ≠ out := fun j hj z => md_nn M j hj (by rw [z]; exact hout)
  refine LP (6 * 513) 0 m_S0 _ _ _ x mm out ar (by omega) ⟨⟨fun _ => 0, fun _ => none, hd, fun _ => none, ?_⟩, ⟨0, 0, 0, ?_⟩, ⟨_, ac_hsE⟩, wf_0, fun z => mo z.symm, fun j hj z => ao j hj z.symm⟩ (Nat.zero_le _) ?_ ?_ _ _ _
  · refine ⟨(ac_hsN xo).trans x2, (ac_hsN eo).trans e2, fun r hr => ?_, fun i hi => absurd hi (Nat.not_lt_zero i), fun b hb => ⟨?_, rfl⟩, fun z => ?_, fun z => ?_, rfl, rfl⟩
    · show none = c_oa _ (if r < 8 then none else some 0)
      rw [if_pos hr]
      rfl
    · rcases hb with z | z | ⟨j, hj, z⟩
      · rw [z, ac_hsN mo, M.1]
        exact sn
      · rw [z, ac_hsE]
        exact sn
      · rw [z, ac_hsN (ao j hj)]
        exact md_nn M j hj
    · rcases z with z | z | ⟨j, hj, z⟩
      · exact xm z
      · exact xo z
      · exact xa j hj z
    · rcases z with z | z | ⟨j, hj, z⟩
      · exact dm z
      · exact eo z
      · exact da j hj z
  · exact md_cp M (ac_hsN mo) (fun j hj => ac_hsN (ao j hj))
  · exact Nat.le_of_ble_eq_true rfl
  · exact Nat.le_of_ble_eq_true rfl
