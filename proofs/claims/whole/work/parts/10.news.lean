/-! ===== new cells; questions on classes; returns ===== -/
theorem ac_newR {base : Nat} {D : va_G} {A : Nat → ClassId} {ah : ac_H} {H0 H H1 : Heap} {locs : List Loc} (e' : ac_E) (hR : ac_Rep base D A ah H) (hbs : base ≤ H0.size) (hS : va_S (ac_B base) H0 H locs) (hz : H1.size = H.size + 1) (ho : ∀ q : Nat, q < H.size → H1[q]? = H[q]?) (he : va_at D vwCl (H.size, ac_em A e') H1) : ah H.size = none ∧ ac_Rep base D A (ac_hs ah H.size e') H1 ∧ va_S (ac_B base) H0 H1 locs := by
  have hlt : ∀ (a : Nat) (e : ac_E), ah a = some e → a < H.size := fun a e h => (hR.2 a e h).2.lt
  refine ⟨?_, ⟨by have := hR.1; omega, fun b e hb => ?_⟩, ⟨by have := hS.1; omega, fun q h1 h2 => (ho q (Nat.lt_of_lt_of_le h1 hS.1)).trans (hS.2.1 q h1 h2), hS.2.2⟩⟩
  · cases hc : ah H.size with
    | none => rfl
    | some e => exact absurd (hlt _ _ hc) (Nat.lt_irrefl _)
  · unfold ac_hs at hb
    by_cases q : b = H.size
    · subst q
      rw [if_pos rfl] at hb
      cases hb
      exact ⟨hR.1, he⟩
    · rw [if_neg q] at hb
      exact ⟨(hR.2 b e hb).1, (hR.2 b e hb).2.kept (ho b (hlt b e hb))⟩
section ACW
variable {M : ac_D} {scr : Nat → Nat → (Nat → Int32) → Prop} {pc nx tg : Nat}
theorem so_newa {t : Nat} {at1 : ArrayType} {ty : FieldType} (ht : ∀ A : Nat → ClassId, (ac_tys A)[t]? = some (A t, ty)) (hty : newarray.typeOf at1 = ty) (hra : ∀ (U : State) (cA : ClassId), va_RA U cA ty → U.vm.findClass ("[" ++ ty.toString) = some cA) (hz : ∀ (D : va_G) (A : Nat → ClassId) (N q : Nat) (H1 : Heap), H1[q]? = some (arrV (A t) N (fun _ => defaultValue ty)) → va_at D vwCl (q, ac_em A (.inr (t, N, ac_zero t))) H1) (hcb : componentBytes ty ≤ 8) (hw : Cond.arrayClass ty ∈ ac_gw) (hd : decode M.2.2.1 pc = .ok (.newarray at1, 2)) (hn : pc + 2 = nx) : ac_So M scr pc (op_newa M.2.2.2.2.2.2 t nx) := by
  subst hn
  subst hty
  intro p l e s m args below meth c base D A Q G lv st ah k n h H locs ls hR hS hL
  obtain ⟨-, hx, hb, -, -, hown, hts, -, -, hK, hbs, -⟩ := G
  obtain ⟨mm, r, rfl, h0, w, h1, h2, h3, h4, h5⟩ := ac_i1v h
  refine va_newaK hx hb (hts _ hw) rfl hd rfl h0 rfl ?_ h3 (by omega) rfl (fun H1 cA e1 e2 e3 e4 e5 => ?_)
  · have : mm.toNatClampNeg * componentBytes (newarray.typeOf at1) ≤ 65536 * 8 := Nat.mul_le_mul (by omega) hcb
    omega
  · have ecA : cA = A t := Option.some.inj (e5.symm.trans (hra s (A t) (hK.1.2 t _ (ht A)).2))
    subst ecA
    obtain ⟨q1, q2, q3⟩ := ac_newR (.inr (t, mm.toNatClampNeg, ac_zero t)) hR hbs hS e2 e3 (hz D A _ _ _ e1)
    refine W.widen (k := k + 1) (n := n + w) (Nat.le_refl _) (by omega) ?_
    exact h5 H.size q1 H1 locs ls q2 q3 hL
theorem ac_ra_int (U : State) (cA : ClassId) (h : va_RA U cA .int) : U.vm.findClass ("[" ++ FieldType.int.toString) = some cA := h
theorem ac_ra_long (U : State) (cA : ClassId) (h : va_RA U cA .long) : U.vm.findClass ("[" ++ FieldType.long.toString) = some cA := h
theorem ac_ra_bool (U : State) (cA : ClassId) (h : va_RA U cA .boolean) : U.vm.findClass ("[" ++ FieldType.boolean.toString) = some cA := h
theorem so_newI (hw : Cond.arrayClass .int ∈ ac_gw) (hd : decode M.2.2.1 pc = .ok (.newarray .int, 2)) (hn : pc + 2 = nx) : ac_So M scr pc (op_newa M.2.2.2.2.2.2 0 nx) := so_newa (ty := .int) (fun _ => rfl) rfl ac_ra_int (fun _ _ _ _ _ h => h) (by decide) hw hd hn
theorem so_newZ (hw : Cond.arrayClass .boolean ∈ ac_gw) (hd : decode M.2.2.1 pc = .ok (.newarray .boolean, 2)) (hn : pc + 2 = nx) : ac_So M scr pc (op_newa M.2.2.2.2.2.2 1 nx) := so_newa (ty := .boolean) (fun _ => rfl) rfl ac_ra_bool (fun _ _ _ _ _ h => h) (by decide) hw hd hn
theorem so_newJ (hw : Cond.arrayClass .long ∈ ac_gw) (hd : decode M.2.2.1 pc = .ok (.newarray .long, 2)) (hn : pc + 2 = nx) : ac_So M scr pc (op_newa M.2.2.2.2.2.2 2 nx) := so_newa (ty := .long) (fun _ => rfl) rfl ac_ra_long (fun _ _ _ _ _ h => h) (by decide) hw hd hn
theorem so_newq {idx : Nat} (hd : decode M.2.2.1 pc = .ok (.anewarray idx, 3)) (hw : Cond.classLink M.1 idx "TypedHall$Item" ∈ ac_gw) (hn : pc + 3 = nx) : ac_So M scr pc (op_newa M.2.2.2.2.2.2 3 nx) := by
  subst hn
  intro p l e s m args below meth c base D A Q G lv st ah k n h H locs ls hR hS hL
  obtain ⟨-, hx, hb, -, -, hown, hts, -, -, hK, hbs, -⟩ := G
  obtain ⟨mm, r, rfl, h0, w, h1, h2, h3, h4, h5⟩ := ac_i1v h
  obtain ⟨ws, hP, hD, hin1, -⟩ := ac_fullR hR
  refine va_newq (D := D) hx hb hown (hts _ hw) hK.2.2.2.2.2.2.1 hK.1 hP hD hS (ac_newA hbs) h0 rfl (by omega) h3 (by omega) hd (fun q cA H1 hK1 hP1 hD1 hS1 => ?_)
  obtain ⟨kA, comp, -, -, -, e1⟩ := (hK1.2 5 (cA, .object "TypedHall$Item") rfl).2
  obtain ⟨kA2, comp2, -, -, -, e2⟩ := (hK.1.2 3 _ rfl).2
  have ecA : cA = A 3 := Option.some.inj (e1.symm.trans e2)
  subst ecA
  obtain ⟨q1, q2⟩ := ac_appR (.inr (3, mm.toNatClampNeg, ac_zero 3)) hin1 (ac_baseS hbs hS1) hD1 hP1
  refine W.widen (k := k + 1) (n := n + w) (Nat.le_refl _) (by omega) ?_
  exact h5 q q1 H1 locs ls q2 hS1 hL
theorem so_new {ci N idx : Nat} {C : String} {T : u_T} {ty : Nat → FieldType} (hc : vwCl[ci]? = some (C, T, N)) (hin : ∀ w ∈ u_ws C T N, w ∈ ac_gw) (hty : ∀ k, k < N → parseFieldDescriptor (T k).2.2.1 = some (ty k)) (hfs : ∀ j, j < N → defaultValue (ty j) = vp_V (ac_fr ci) j) (hnf : ac_nf ci = N) (hd : decode M.2.2.1 pc = .ok (.new idx, 3)) (hw : Cond.classLink M.1 idx C ∈ ac_gw) (hw2 : Cond.instantiable C N ∈ ac_gw) (hw3 : Cond.initialized C ∈ ac_gw) (hn : pc + 3 = nx) : ac_So M scr pc (op_new M.2.2.2.2.2.2 ci nx) := by
  subst hn
  intro p l e s m args below meth c base D A Q G lv st ah k n h H locs ls hR hS hL
  obtain ⟨-, hx, hb, -, -, hown, hts, -, -, hK, hbs, -⟩ := G
  obtain ⟨h3, h4, h5⟩ := h
  rw [hnf] at h4 h5
  obtain ⟨ws, hP, hD, hin1, -⟩ := ac_fullR hR
  refine va_new (D := D) hx hb hts hin ty hty hown (hts _ hw) (hts _ hw2) (hts _ hw3) hK.1 hP hD hS (ac_newA hbs) hc hfs h3 h4 hd (fun q H1 hP1 hD1 hS1 => ?_)
  obtain ⟨q1, q2⟩ := ac_appR (.inl (ci, ac_fr ci)) hin1 (ac_baseS hbs hS1) hD1 hP1
  exact h5 q q1 H1 locs ls q2 hS1 hL
theorem ac_itNc {cj ci : Nat} {r r2 : vw_C} (hj : cj = 4 ∨ cj = 5 ∨ cj = 6 ∨ cj = 7) (hi : ci = 4 ∨ ci = 5 ∨ ci = 6) (hne : cj ≠ ci) (h1 : vwCl[cj]? = some r) (h2 : vwCl[ci]? = some r2) : (r.1, r2.1) ∈ ac_nc := by
  rcases hj with rfl | rfl | rfl | rfl <;> rcases hi with rfl | rfl | rfl <;> first | exact absurd rfl hne | (cases h1; cases h2; decide +kernel)
theorem ac_item4 {ci : Nat} {X : Prop} (h : ac_item ci X) : (ci = 4 ∨ ci = 5 ∨ ci = 6 ∨ ci = 7) ∧ X := by
  match ci, h with
  | 4, h => exact ⟨Or.inl rfl, h⟩
  | 5, h => exact ⟨Or.inr (Or.inl rfl), h⟩
  | 6, h => exact ⟨Or.inr (Or.inr (Or.inl rfl)), h⟩
  | 7, h => exact ⟨Or.inr (Or.inr (Or.inr rfl)), h⟩
theorem so_inst {ci idx : Nat} {r2 : vw_C} (hi : ci = 4 ∨ ci = 5 ∨ ci = 6) (hc : vwCl[ci]? = some r2) (hd : decode M.2.2.1 pc = .ok (.instanceof idx, 3)) (hw : Cond.classLink M.1 idx r2.1 ∈ ac_gw) (hn : pc + 3 = nx) : ac_So M scr pc (op_inst ci nx) := by
  subst hn
  intro p l e s m args below meth c base D A Q G lv st ah k n h H locs ls hR hS hL
  obtain ⟨-, hx, hb, -, -, hown, hts, -, -, hK, hbs, -⟩ := G
  rcases ac_n1v h with ⟨r, rfl, h⟩ | ⟨a, r, rfl, cj, fs, h1, h2⟩
  · exact lv_instN hx hb hd (h H locs ls hR hS hL)
  · obtain ⟨ws, hP, hD, hin1, -⟩ := ac_fullR hR
    obtain ⟨q0, hq⟩ := hin1 a _ h1
    obtain ⟨⟨rc, hrc, -⟩, -⟩ := ac_itemv h2
    obtain ⟨hj, h3⟩ := ac_item4 h2
    have hrv := va_recv (D := D) hK.1 hP hrc hq
    by_cases hne : cj = ci
    · subst hne
      cases Option.some.inj (hrc.symm.trans hc)
      have h4 : cond (Nat.beq cj cj) _ _ := h3
      rw [Nat.beq_refl] at h4
      exact va_instS hx hb hown (hts _ hw) (hK.1.1 cj _ hc).2 hrv hd (h4 H locs ls hR hS hL)
    · have h4 : cond (Nat.beq cj ci) _ _ := h3
      have hbq : Nat.beq cj ci = false := by
        cases hz : Nat.beq cj ci with
        | false => rfl
        | true => exact absurd (Nat.eq_of_beq_eq_true hz) hne
      rw [hbq] at h4
      exact va_instNo hx hb hown (hts _ hw) (hK.2.2.2.2.1 _ (ac_itNc hj hi hne hrc hc)) hrv hd (h4 H locs ls hR hS hL)
theorem so_cast {ci idx : Nat} {r2 : vw_C} (hc : vwCl[ci]? = some r2) (hd : decode M.2.2.1 pc = .ok (.checkcast idx, 3)) (hw : Cond.classLink M.1 idx r2.1 ∈ ac_gw) (hn : pc + 3 = nx) : ac_So M scr pc (op_cast ci nx) := by
  subst hn
  intro p l e s m args below meth c base D A Q G lv st ah k n h H locs ls hR hS hL
  obtain ⟨-, hx, hb, -, -, hown, hts, -, -, hK, hbs, -⟩ := G
  rcases ac_n1v h with ⟨r, rfl, h⟩ | ⟨a, r, rfl, fs, h1, h2⟩
  · exact lv_castN hx hb hd (h H locs ls hR hS hL)
  · obtain ⟨ws, hP, hD, hin1, -⟩ := ac_fullR hR
    obtain ⟨q0, hq⟩ := hin1 a _ h1
    exact va_castS hx hb hown (hts _ hw) (hK.1.1 ci _ hc).2 (va_recv (D := D) hK.1 hP hc hq) hd (h2 H locs ls hR hS hL)
-- returns
theorem so_ireturn (hret : M.2.2.2.2.1 = some .int) (hd : decode M.2.2.1 pc = .ok (.ireturn, 1)) : ac_So M scr pc (op_ireturn M.2.2.2.2.2.2) := by
  intro p l e s m args below meth c base D A Q G lv st ah k n h H locs ls hR hS hL
  obtain ⟨-, hx, hb, -, hr, -, -, hlk, -⟩ := G
  obtain ⟨x, r, rfl, rfl, h1, h2, h3⟩ := ac_i1v h
  refine vx_ret (W.widen h2 h3 ?_)
  exact W.iret hx hb (hr.trans hret) (fun t ht hW => ⟨_, ah, rfl, h1, by rw [ht]; exact hR, hS.F ht⟩) hS.2.2 hd hlk
theorem so_zreturn (hret : M.2.2.2.2.1 = some .boolean) (hd : decode M.2.2.1 pc = .ok (.ireturn, 1)) : ac_So M scr pc (op_zreturn M.2.2.2.2.2.2) := by
  intro p l e s m args below meth c base D A Q G lv st ah k n h H locs ls hR hS hL
  obtain ⟨-, hx, hb, -, hr, -, -, hlk, -⟩ := G
  obtain ⟨x, r, rfl, rfl, h01, h1, h2, h3⟩ := ac_i1v h
  refine vx_ret (W.widen h2 h3 ?_)
  exact W.zret hx hb (hr.trans hret) (by rcases h01 with rfl | rfl <;> decide +kernel) (fun t ht hW => ⟨_, ah, rfl, h1, by rw [ht]; exact hR, hS.F ht⟩) hS.2.2 hd hlk
theorem so_lreturn (hret : M.2.2.2.2.1 = some .long) (hd : decode M.2.2.1 pc = .ok (.lreturn, 1)) : ac_So M scr pc (op_lreturn M.2.2.2.2.2.2) := by
  intro p l e s m args below meth c base D A Q G lv st ah k n h H locs ls hR hS hL
  obtain ⟨-, hx, hb, -, hr, -, -, hlk, -⟩ := G
  obtain ⟨x, r, rfl, rfl, h1, h2, h3⟩ := ac_l1v h
  refine vx_ret (W.widen h2 h3 ?_)
  exact W.lret hx hb (hr.trans hret) (fun t ht hW => ⟨_, ah, rfl, h1, by rw [ht]; exact hR, hS.F ht⟩) hS.2.2 hd hlk
theorem so_areturn {rt : FieldType} (hret : M.2.2.2.2.1 = some rt) (hrt : (∃ n, rt = .object n) ∨ ∃ t, rt = .array t) (hd : decode M.2.2.1 pc = .ok (.areturn, 1)) : ac_So M scr pc (op_areturn M.2.2.2.2.2.2) := by
  intro p l e s m args below meth c base D A Q G lv st ah k n h H locs ls hR hS hL
  obtain ⟨-, hx, hb, -, hr, -, -, hlk, -⟩ := G
  rcases ac_n1v h with ⟨r, rfl, rfl, h1, h2, h3⟩ | ⟨x, r, rfl, rfl, h1, h2, h3⟩
  · refine vx_ret (W.widen h2 h3 ?_)
    exact W.aret hx hb (hr.trans hret) hrt (Or.inl rfl) (fun t ht hW => ⟨_, ah, rfl, h1, by rw [ht]; exact hR, hS.F ht⟩) hS.2.2 hd hlk
  · refine vx_ret (W.widen h2 h3 ?_)
    exact W.aret hx hb (hr.trans hret) hrt (Or.inr ⟨x, rfl⟩) (fun t ht hW => ⟨_, ah, rfl, h1, by rw [ht]; exact hR, hS.F ht⟩) hS.2.2 hd hlk
theorem so_return (hret : M.2.2.2.2.1 = none) (hd : decode M.2.2.1 pc = .ok (.return_, 1)) : ac_So M scr pc (op_return M.2.2.2.2.2.2) := by
  intro p l e s m args below meth c base D A Q G lv st ah k n h H locs ls hR hS hL
  obtain ⟨-, hx, hb, -, hr, -, -, hlk, -⟩ := G
  obtain ⟨rfl, h1, h2, h3⟩ := h
  refine vx_ret (W.widen h2 h3 ?_)
  exact W.vret hx hb (hr.trans hret) (fun t ht hW => ⟨_, ah, rfl, h1, by rw [ht]; exact hR, hS.F ht⟩) hS.2.2 hd hlk
end ACW
