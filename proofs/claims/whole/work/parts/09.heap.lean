/-! ===== the heap: rows of the machine under the abstract heap ===== -/
theorem ac_fullR {base : Nat} {D : va_G} {A : Nat → ClassId} {ah : ac_H} {H : Heap} (h : ac_Rep base D A ah H) : ∃ ws : va_W, va_P D vwCl ws H ∧ va_D (ac_B base) ws ∧ (∀ (a : Nat) (e : ac_E), ah a = some e → ∃ k : Nat, ws[k]? = some (a, ac_em A e)) ∧ ∀ (k : Nat) (q : Nat × va_E), ws[k]? = some q → ∃ e : ac_E, ah q.1 = some e ∧ q.2 = ac_em A e := by
  have key : ∀ n : Nat, ∃ ws : va_W, (∀ q ∈ ws, q.1 < n ∧ ∃ e : ac_E, ah q.1 = some e ∧ q.2 = ac_em A e) ∧ (∀ (i j : Nat) (p q : Nat × va_E), ws[i]? = some p → ws[j]? = some q → p.1 = q.1 → i = j) ∧ ∀ (a : Nat) (e : ac_E), a < n → ah a = some e → (a, ac_em A e) ∈ ws := by
    intro n
    induction n with
    | zero => exact ⟨[], fun q hq => (by cases hq), fun i j p q hi => (by simp at hi), fun a e ha => absurd ha (Nat.not_lt_zero a)⟩
    | succ n ih =>
      obtain ⟨ws, h1, h2, h3⟩ := ih
      cases hn : ah n with
      | none =>
        refine ⟨ws, fun q hq => ⟨Nat.lt_succ_of_lt (h1 q hq).1, (h1 q hq).2⟩, h2, fun a e ha he => ?_⟩
        rcases Nat.lt_succ_iff_lt_or_eq.mp ha with hl | rfl
        · exact h3 a e hl he
        · rw [hn] at he; cases he
      | some e0 =>
        refine ⟨(n, ac_em A e0) :: ws, ?_, ?_, ?_⟩
        · intro q hq
          rcases List.mem_cons.mp hq with rfl | hq
          · exact ⟨Nat.lt_succ_self n, e0, hn, rfl⟩
          · exact ⟨Nat.lt_succ_of_lt (h1 q hq).1, (h1 q hq).2⟩
        · intro i j p q hi hj hpq
          match i, j, hi, hj with
          | 0, 0, _, _ => rfl
          | 0, j + 1, hi, hj =>
            have e1 : p = (n, ac_em A e0) := by simpa using hi.symm
            have e2 := (h1 q (List.mem_of_getElem? (by simpa using hj))).1
            rw [← hpq, e1] at e2
            exact absurd e2 (Nat.lt_irrefl n)
          | i + 1, 0, hi, hj =>
            have e1 : q = (n, ac_em A e0) := by simpa using hj.symm
            have e2 := (h1 p (List.mem_of_getElem? (by simpa using hi))).1
            rw [hpq, e1] at e2
            exact absurd e2 (Nat.lt_irrefl n)
          | i + 1, j + 1, hi, hj => exact congrArg (· + 1) (h2 i j p q (by simpa using hi) (by simpa using hj) hpq)
        · intro a e ha he
          rcases Nat.lt_succ_iff_lt_or_eq.mp ha with hl | rfl
          · exact List.mem_cons_of_mem _ (h3 a e hl he)
          · rw [hn] at he; cases he; exact List.mem_cons_self
  obtain ⟨ws, h1, h2, h3⟩ := key H.size
  refine ⟨ws, ?_, ⟨h2, ?_⟩, ?_, ?_⟩
  · intro k q hq
    obtain ⟨-, e, he, hx⟩ := h1 q (List.mem_of_getElem? hq)
    obtain ⟨a, x⟩ := q
    dsimp only at he hx
    subst hx
    exact (h.2 a e he).2
  · intro k q hq
    obtain ⟨-, e, he, hx⟩ := h1 q (List.mem_of_getElem? hq)
    exact (h.2 q.1 e he).1
  · intro a e he
    exact List.getElem?_of_mem (h3 a e (h.2 a e he).2.lt he)
  · intro k q hq
    exact (h1 q (List.mem_of_getElem? hq)).2
theorem ac_setR {base : Nat} {D : va_G} {A : Nat → ClassId} {ah : ac_H} {H1 : Heap} {ws : va_W} {a q0 : Nat} {x : va_E} (e' : ac_E) (hD : va_D (ac_B base) ws) (hin : ∀ (a : Nat) (e : ac_E), ah a = some e → ∃ k : Nat, ws[k]? = some (a, ac_em A e)) (h0 : ws[q0]? = some (a, x)) (hb : base ≤ H1.size) (hP : va_P D vwCl (ws.set q0 (a, ac_em A e')) H1) : ac_Rep base D A (ac_hs ah a e') H1 := by
  have hlt : q0 < ws.length := (List.getElem?_eq_some_iff.mp h0).1
  refine ⟨hb, fun b e hbe => ?_⟩
  unfold ac_hs at hbe
  by_cases q : b = a
  · subst q
    rw [if_pos rfl] at hbe
    cases hbe
    exact ⟨hD.2 q0 _ h0, hP q0 _ (by simp [hlt])⟩
  · rw [if_neg q] at hbe
    obtain ⟨k, hk⟩ := hin b e hbe
    have hne : q0 ≠ k := fun z => by subst z; rw [h0] at hk; cases hk; exact q rfl
    exact ⟨hD.2 k _ hk, hP k _ (by rw [List.getElem?_set_ne hne]; exact hk)⟩
theorem ac_appR {base : Nat} {D : va_G} {A : Nat → ClassId} {ah : ac_H} {H1 : Heap} {ws : va_W} {a : Nat} (e' : ac_E) (hin : ∀ (a : Nat) (e : ac_E), ah a = some e → ∃ k : Nat, ws[k]? = some (a, ac_em A e)) (hb : base ≤ H1.size) (hD : va_D (ac_B base) (ws ++ [(a, ac_em A e')])) (hP : va_P D vwCl (ws ++ [(a, ac_em A e')]) H1) : ah a = none ∧ ac_Rep base D A (ac_hs ah a e') H1 := by
  have hl : (ws ++ [(a, ac_em A e')])[ws.length]? = some (a, ac_em A e') := by simp
  have hk' : ∀ (b : Nat) (e : ac_E), ah b = some e → ∃ k : Nat, k < ws.length ∧ (ws ++ [(a, ac_em A e')])[k]? = some (b, ac_em A e) := by
    intro b e he
    obtain ⟨k, hk⟩ := hin b e he
    have hlt : k < ws.length := (List.getElem?_eq_some_iff.mp hk).1
    exact ⟨k, hlt, by rw [List.getElem?_append_left hlt]; exact hk⟩
  refine ⟨?_, hb, fun b e hbe => ?_⟩
  · cases he : ah a with
    | none => rfl
    | some e =>
      obtain ⟨k, h1, h2⟩ := hk' a e he
      have := hD.1 k ws.length _ _ h2 hl rfl
      omega
  · unfold ac_hs at hbe
    by_cases q : b = a
    · subst q
      rw [if_pos rfl] at hbe
      cases hbe
      exact ⟨hD.2 _ _ hl, hP _ _ hl⟩
    · rw [if_neg q] at hbe
      obtain ⟨k, -, h2⟩ := hk' b e hbe
      exact ⟨hD.2 k _ h2, hP k _ h2⟩
theorem ac_baseS {base : Nat} {H0 H : Heap} {locs : List Loc} (h0 : base ≤ H0.size) (h : va_S (ac_B base) H0 H locs) : base ≤ H.size := Nat.le_trans h0 h.1
theorem ac_newA {base : Nat} {H0 : Heap} (h0 : base ≤ H0.size) : ∀ q, H0.size ≤ q → ac_B base q := fun _ h => Nat.le_trans h0 h
theorem ac_gfv : ∀ {fs : List Value} {f : Nat} {K : Value → Prop}, ac_gf fs f K → ∃ v, fs[f]? = some v ∧ K v
  | v :: t, 0, K, h => ⟨v, rfl, h⟩
  | w :: t, i + 1, K, h => by
    obtain ⟨v, h1, h2⟩ := ac_gfv (fs := t) (f := i) h
    exact ⟨v, by simpa using h1, h2⟩
  | [], f, K, h => by cases f <;> exact False.elim h
theorem ac_sfv : ∀ {fs : List Value} {f : Nat} {v : Value} {K : List Value → Prop}, ac_sf fs f v K → f < fs.length ∧ K (fs.set f v)
  | w :: t, 0, v, K, h => ⟨by simp, h⟩
  | w :: t, i + 1, v, K, h => by
    obtain ⟨h1, h2⟩ := ac_sfv (fs := t) (f := i) (K := fun t' => K (w :: t')) h
    exact ⟨by simp; omega, h2⟩
  | [], f, v, K, h => by cases f <;> exact False.elim h
/-- a kind and a field's type -/
def ac_fo : Nat → FieldType → Bool
  | 0, .int => true
  | 1, .long => true
  | 2, .object _ => true
  | 2, .array _ => true
  | _, _ => false
theorem ac_kvv {k : Nat} {ty : FieldType} {v : Value} {X : Prop} (hf : ac_fo k ty = true) (h : ac_kv k v X) : narrow ty v = v ∧ fits ty v = true ∧ X := by
  match k, v, h with
  | 0, .int x, h =>
    match ty, hf with
    | .int, _ => exact ⟨rfl, rfl, h⟩
  | 1, .long x, h =>
    match ty, hf with
    | .long, _ => exact ⟨rfl, rfl, h⟩
  | 2, .ref x, h =>
    match ty, hf with
    | .object _, _ => exact ⟨rfl, rfl, h⟩
    | .array _, _ => exact ⟨rfl, rfl, h⟩
  | 2, .null, h =>
    match ty, hf with
    | .object _, _ => exact ⟨rfl, rfl, h⟩
    | .array _, _ => exact ⟨rfl, rfl, h⟩
section ACH
variable {M : ac_D} {scr : Nat → Nat → (Nat → Int32) → Prop} {pc nx tg : Nat}
theorem so_get {ci f N idx : Nat} {C : String} {T : u_T} (hc : vwCl[ci]? = some (C, T, N)) (hin : ∀ w ∈ u_ws C T N, w ∈ ac_gw) (hk : f < N) (hd : decode M.2.2.1 pc = .ok (.getfield idx, 3)) (hw : Cond.fieldLink M.1 idx (T f).1 (T f).2.1 (T f).2.2.1 ∈ ac_gw) (hn : pc + 3 = nx) : ac_So M scr pc (op_get ci f nx) := by
  subst hn
  intro p l e s m args below meth c base D A Q G lv st ah k n h H locs ls hR hS hL
  obtain ⟨-, hx, hb, -, -, hown, hts, -, -, hK, -⟩ := G
  obtain ⟨a, r, rfl, fs, h1, h23⟩ := ac_a1v h
  obtain ⟨v, h2, h3⟩ := ac_gfv h23
  obtain ⟨ws, hP, hD, hin1, -⟩ := ac_fullR hR
  obtain ⟨q0, hq⟩ := hin1 a _ h1
  exact va_get (D := D) hx hb hts hin hown hK.1 hP q0 hq hc f hk (hts _ hw) (fun _ z => z) h2 hd (h3 H locs ls hR hS hL)
theorem so_getN {ci f N idx : Nat} {C host : String} {T : u_T} (hc : vwCl[ci]? = some (C, T, N)) (hin : ∀ w ∈ u_ws C T N, w ∈ ac_gw) (hk : f < N) (hd : decode M.2.2.1 pc = .ok (.getfield idx, 3)) (hw : Cond.fieldLinkNest M.1 idx (T f).1 (T f).2.1 (T f).2.2.1 host ∈ ac_ng) (hn : pc + 3 = nx) : ac_So M scr pc (op_get ci f nx) := by
  subst hn
  intro p l e s m args below meth c base D A Q G lv st ah k n h H locs ls hR hS hL
  obtain ⟨-, hx, hb, -, -, hown, hts, -, -, hK, -⟩ := G
  obtain ⟨a, r, rfl, fs, h1, h23⟩ := ac_a1v h
  obtain ⟨v, h2, h3⟩ := ac_gfv h23
  obtain ⟨ws, hP, hD, hin1, -⟩ := ac_fullR hR
  obtain ⟨q0, hq⟩ := hin1 a _ h1
  exact va_getN (D := D) hx hb hts hin hown hK.1 hP q0 hq hc f hk (va_Nw.use rfl (hK.2.2.2.2.2.1 _ hw)) (fun _ z => z) h2 hd (h3 H locs ls hR hS hL)
theorem so_put {ci f N idx : Nat} {C : String} {T : u_T} {ty : Nat → FieldType} (hc : vwCl[ci]? = some (C, T, N)) (hin : ∀ w ∈ u_ws C T N, w ∈ ac_gw) (hty : ∀ k, k < N → parseFieldDescriptor (T k).2.2.1 = some (ty k)) (hnm : ∀ a, a < N → ∀ b, b < N → a ≠ b → (T a).2.1 ≠ (T b).2.1) (hk : f < N) (hfo : ac_fo (ac_fk ci f) (ty f) = true) (hfin : (T f).2.2.2 = false) (hd : decode M.2.2.1 pc = .ok (.putfield idx, 3)) (hw : Cond.fieldLink M.1 idx (T f).1 (T f).2.1 (T f).2.2.1 ∈ ac_gw) (hn : pc + 3 = nx) : ac_So M scr pc (op_put ci f nx) := by
  subst hn
  intro p l e s m args below meth c base D A Q G lv st ah k n h H locs ls hR hS hL
  obtain ⟨-, hx, hb, -, -, hown, hts, -, -, hK, hbs, -⟩ := G
  match st, h with
  | v :: st, h =>
    obtain ⟨a, r, rfl, fs, h1, h3⟩ := ac_a1v h
    obtain ⟨k1, k2, h34⟩ := ac_kvv hfo h3
    obtain ⟨h2, h4⟩ := ac_sfv h34
    obtain ⟨ws, hP, hD, hin1, -⟩ := ac_fullR hR
    obtain ⟨q0, hq⟩ := hin1 a _ h1
    exact va_put (D := D) hx hb hts hin ty hty hnm hown hK.1 hP hD hS q0 hq hc f hk (hts _ hw) (fun _ z => z) hfin (hty f hk) k1 k2 h2 hd (fun H1 locs1 hP1 hD1 hS1 => h4 H1 locs1 ls (ac_setR (.inl (ci, fs.set f v)) hD hin1 hq (ac_baseS hbs hS1) hP1) hS1 hL)
theorem so_putN {ci f N idx : Nat} {C host : String} {T : u_T} {ty : Nat → FieldType} (hc : vwCl[ci]? = some (C, T, N)) (hin : ∀ w ∈ u_ws C T N, w ∈ ac_gw) (hty : ∀ k, k < N → parseFieldDescriptor (T k).2.2.1 = some (ty k)) (hnm : ∀ a, a < N → ∀ b, b < N → a ≠ b → (T a).2.1 ≠ (T b).2.1) (hk : f < N) (hfo : ac_fo (ac_fk ci f) (ty f) = true) (hfin : (T f).2.2.2 = false) (hd : decode M.2.2.1 pc = .ok (.putfield idx, 3)) (hw : Cond.fieldLinkNest M.1 idx (T f).1 (T f).2.1 (T f).2.2.1 host ∈ ac_ng) (hn : pc + 3 = nx) : ac_So M scr pc (op_put ci f nx) := by
  subst hn
  intro p l e s m args below meth c base D A Q G lv st ah k n h H locs ls hR hS hL
  obtain ⟨-, hx, hb, -, -, hown, hts, -, -, hK, hbs, -⟩ := G
  match st, h with
  | v :: st, h =>
    obtain ⟨a, r, rfl, fs, h1, h3⟩ := ac_a1v h
    obtain ⟨k1, k2, h34⟩ := ac_kvv hfo h3
    obtain ⟨h2, h4⟩ := ac_sfv h34
    obtain ⟨ws, hP, hD, hin1, -⟩ := ac_fullR hR
    obtain ⟨q0, hq⟩ := hin1 a _ h1
    exact va_putN (D := D) hx hb hts hin ty hty hnm hown hK.1 hP hD hS q0 hq hc f hk (va_Nw.use rfl (hK.2.2.2.2.2.1 _ hw)) (fun _ z => z) hfin (hty f hk) k1 k2 h2 hd (fun H1 locs1 hP1 hD1 hS1 => h4 H1 locs1 ls (ac_setR (.inl (ci, fs.set f v)) hD hin1 hq (ac_baseS hbs hS1) hP1) hS1 hL)
theorem so_putF {ci f N idx : Nat} {C : String} {T : u_T} {ty : Nat → FieldType} (hc : vwCl[ci]? = some (C, T, N)) (hin : ∀ w ∈ u_ws C T N, w ∈ ac_gw) (hty : ∀ k, k < N → parseFieldDescriptor (T k).2.2.1 = some (ty k)) (hnm : ∀ a, a < N → ∀ b, b < N → a ≠ b → (T a).2.1 ≠ (T b).2.1) (hk : f < N) (hfo : ac_fo (ac_fk ci f) (ty f) = true) (hfin : (T f).2.2.2 = true) (hin2 : M.2.1 = "<init>") (hdecl : (T f).1 = M.1) (hd : decode M.2.2.1 pc = .ok (.putfield idx, 3)) (hw : Cond.fieldLink M.1 idx (T f).1 (T f).2.1 (T f).2.2.1 ∈ ac_gw) (hn : pc + 3 = nx) : ac_So M scr pc (op_put ci f nx) := by
  subst hn
  intro p l e s m args below meth c base D A Q G lv st ah k n h H locs ls hR hS hL
  obtain ⟨-, hx, hb, -, -, hown, hts, -, -, hK, hbs, hmn, -⟩ := G
  match st, h with
  | v :: st, h =>
    obtain ⟨a, r, rfl, fs, h1, h3⟩ := ac_a1v h
    obtain ⟨k1, k2, h34⟩ := ac_kvv hfo h3
    obtain ⟨h2, h4⟩ := ac_sfv h34
    obtain ⟨ws, hP, hD, hin1, -⟩ := ac_fullR hR
    obtain ⟨q0, hq⟩ := hin1 a _ h1
    exact va_putF (D := D) hx hb hts hin ty hty hnm hown hK.1 hP hD hS q0 hq hc f hk (hts _ hw) (fun _ z => z) hfin (hmn.trans hin2) hdecl (hty f hk) k1 k2 h2 hd (fun H1 locs1 hP1 hD1 hS1 => h4 H1 locs1 ls (ac_setR (.inl (ci, fs.set f v)) hD hin1 hq (ac_baseS hbs hS1) hP1) hS1 hL)
theorem so_iald (hd : decode M.2.2.1 pc = .ok (.iaload, 1)) (hn : pc + 1 = nx) : ac_So M scr pc (op_iald nx) := by
  subst hn
  intro p l e s m args below meth c base D A Q G lv st ah k n h H locs ls hR hS hL
  obtain ⟨-, hx, hb, -, -, hown, hts, -, -, hK, hbs, -⟩ := G
  obtain ⟨ws, hP, hD, hin1, -⟩ := ac_fullR hR
  obtain ⟨i, r1, rfl, g1⟩ := ac_i1v h
  obtain ⟨a, r, rfl, z, f, h1, h2, h3⟩ := ac_a1v g1
  obtain ⟨q0, hq⟩ := hin1 a _ h1
  exact va_iald (D := D) hx hb hK.1 hP q0 0 hq rfl h2 hd (h3 H locs ls hR hS hL)
theorem so_zald (hd : decode M.2.2.1 pc = .ok (.baload, 1)) (hn : pc + 1 = nx) : ac_So M scr pc (op_zald nx) := by
  subst hn
  intro p l e s m args below meth c base D A Q G lv st ah k n h H locs ls hR hS hL
  obtain ⟨-, hx, hb, -, -, hown, hts, -, -, hK, hbs, -⟩ := G
  obtain ⟨ws, hP, hD, hin1, -⟩ := ac_fullR hR
  obtain ⟨i, r1, rfl, g1⟩ := ac_i1v h
  obtain ⟨a, r, rfl, z, f, h1, h2, h3⟩ := ac_a1v g1
  obtain ⟨q0, hq⟩ := hin1 a _ h1
  exact va_zald (D := D) hx hb hK.1 hP q0 1 hq rfl h2 hd (h3 H locs ls hR hS hL)
theorem so_lald (hd : decode M.2.2.1 pc = .ok (.laload, 1)) (hn : pc + 1 = nx) : ac_So M scr pc (op_lald nx) := by
  subst hn
  intro p l e s m args below meth c base D A Q G lv st ah k n h H locs ls hR hS hL
  obtain ⟨-, hx, hb, -, -, hown, hts, -, -, hK, hbs, -⟩ := G
  obtain ⟨ws, hP, hD, hin1, -⟩ := ac_fullR hR
  obtain ⟨i, r1, rfl, g1⟩ := ac_i1v h
  obtain ⟨a, r, rfl, z, f, h1, h2, h3⟩ := ac_a1v g1
  obtain ⟨q0, hq⟩ := hin1 a _ h1
  exact va_lald (D := D) hx hb hK.1 hP q0 2 hq rfl h2 hd (h3 H locs ls hR hS hL)
theorem so_iast (hd : decode M.2.2.1 pc = .ok (.iastore, 1)) (hn : pc + 1 = nx) : ac_So M scr pc (op_iast nx) := by
  subst hn
  intro p l e s m args below meth c base D A Q G lv st ah k n h H locs ls hR hS hL
  obtain ⟨-, hx, hb, -, -, hown, hts, -, -, hK, hbs, -⟩ := G
  obtain ⟨ws, hP, hD, hin1, -⟩ := ac_fullR hR
  obtain ⟨x, r1, rfl, g1⟩ := ac_i1v h
  obtain ⟨i, r2, rfl, g2⟩ := ac_i1v g1
  obtain ⟨a, r, rfl, z, f, h1, h2, h3⟩ := ac_a1v g2
  obtain ⟨q0, hq⟩ := hin1 a _ h1
  exact va_iast (D := D) hx hb hK.1 hP hD hS q0 0 hq rfl h2 hd (fun H1 locs1 hP1 hD1 hS1 => h3 H1 locs1 ls (ac_setR (.inr (0, z, .inl (upd f i.toNatClampNeg x))) hD hin1 hq (ac_baseS hbs hS1) hP1) hS1 hL)
theorem so_last (hd : decode M.2.2.1 pc = .ok (.lastore, 1)) (hn : pc + 1 = nx) : ac_So M scr pc (op_last nx) := by
  subst hn
  intro p l e s m args below meth c base D A Q G lv st ah k n h H locs ls hR hS hL
  obtain ⟨-, hx, hb, -, -, hown, hts, -, -, hK, hbs, -⟩ := G
  obtain ⟨ws, hP, hD, hin1, -⟩ := ac_fullR hR
  obtain ⟨x, r1, rfl, g1⟩ := ac_l1v h
  obtain ⟨i, r2, rfl, g2⟩ := ac_i1v g1
  obtain ⟨a, r, rfl, z, f, h1, h2, h3⟩ := ac_a1v g2
  obtain ⟨q0, hq⟩ := hin1 a _ h1
  exact va_last (D := D) hx hb hK.1 hP hD hS q0 2 hq rfl h2 hd (fun H1 locs1 hP1 hD1 hS1 => h3 H1 locs1 ls (ac_setR (.inr (2, z, .inr (.inl (vp_updL f i.toNatClampNeg x)))) hD hin1 hq (ac_baseS hbs hS1) hP1) hS1 hL)
theorem so_zast (hd : decode M.2.2.1 pc = .ok (.bastore, 1)) (hn : pc + 1 = nx) : ac_So M scr pc (op_zast nx) := by
  subst hn
  intro p l e s m args below meth c base D A Q G lv st ah k n h H locs ls hR hS hL
  obtain ⟨-, hx, hb, -, -, hown, hts, -, -, hK, hbs, -⟩ := G
  obtain ⟨ws, hP, hD, hin1, -⟩ := ac_fullR hR
  obtain ⟨x, r1, rfl, g1⟩ := ac_i1v h
  obtain ⟨i, r2, rfl, g2⟩ := ac_i1v g1
  obtain ⟨a, r, rfl, z, f, h1, h2, hx01, h3⟩ := ac_a1v g2
  obtain ⟨q0, hq⟩ := hin1 a _ h1
  have hnar : vp_nar .boolean x = x := by rcases hx01 with rfl | rfl <;> decide +kernel
  refine va_zast (D := D) hx hb hK.1 hP hD hS q0 1 hq rfl h2 hd (fun H1 locs1 hP1 hD1 hS1 => ?_)
  rw [hnar] at hP1
  exact h3 H1 locs1 ls (ac_setR (.inr (1, z, .inl (upd f i.toNatClampNeg x))) hD hin1 hq (ac_baseS hbs hS1) hP1) hS1 hL
theorem ac_emA {A : Nat → ClassId} {t z : Nat} {f : ac_C} : ∃ y : ((Nat → Int32) ⊕ (Nat → Int64) ⊕ (Nat → UInt32) ⊕ (Nat → UInt64) ⊕ (Nat → Option Nat)), ac_em A (.inr (t, z, f)) = .inl (A t, z, y) := by
  match f with
  | .inl f => exact ⟨_, rfl⟩
  | .inr (.inl f) => exact ⟨_, rfl⟩
  | .inr (.inr f) => exact ⟨_, rfl⟩
theorem so_alen {t : Nat} {ty : FieldType} (ht : ∀ A : Nat → ClassId, (ac_tys A)[t]? = some (A t, ty)) (hd : decode M.2.2.1 pc = .ok (.arraylength, 1)) (hn : pc + 1 = nx) : ac_So M scr pc (op_alen t nx) := by
  subst hn
  intro p l e s m args below meth c base D A Q G lv st ah k n h H locs ls hR hS hL
  obtain ⟨-, hx, hb, -, -, hown, hts, -, -, hK, hbs, -⟩ := G
  obtain ⟨ws, hP, hD, hin1, -⟩ := ac_fullR hR
  obtain ⟨a, r, rfl, z, f, h1, h3⟩ := ac_a1v h
  obtain ⟨q0, hq⟩ := hin1 a _ h1
  obtain ⟨y, hy⟩ := ac_emA (A := A) (t := t) (z := z) (f := f)
  rw [hy] at hq
  exact va_alen (D := D) hx hb hK.1 hP q0 t hq (ht A) rfl hd (h3 H locs ls hR hS hL)
theorem so_sld (hd : decode M.2.2.1 pc = .ok (.iaload, 1)) (hn : pc + 1 = nx) : ac_So M scr pc (op_sld scr nx) := by
  subst hn
  intro p l e s m args below meth c base D A Q G lv st ah k n h H locs ls hR hS hL
  obtain ⟨-, hx, hb, -, -, hown, hts, -, -, hK, hbs, -, hsc⟩ := G
  obtain ⟨i, r1, rfl, g1⟩ := ac_i1v h
  obtain ⟨a, r, rfl, z, f, h1, h2, h3⟩ := ac_a1v g1
  obtain ⟨q1, q2⟩ := hsc a z f h1
  exact va_sld hx hb q2 (Nat.lt_of_lt_of_le q1 hbs) (fun z => absurd z (Nat.not_le.mpr q1)) hS h2 hd (h3 H locs ls hR hS hL)
theorem so_slen (hd : decode M.2.2.1 pc = .ok (.arraylength, 1)) (hn : pc + 1 = nx) : ac_So M scr pc (op_slen scr nx) := by
  subst hn
  intro p l e s m args below meth c base D A Q G lv st ah k n h H locs ls hR hS hL
  obtain ⟨-, hx, hb, -, -, hown, hts, -, -, hK, hbs, -, hsc⟩ := G
  obtain ⟨a, r, rfl, z, f, h1, h3⟩ := ac_a1v h
  obtain ⟨q1, q2⟩ := hsc a z f h1
  exact va_slen hx hb q2 (Nat.lt_of_lt_of_le q1 hbs) (fun z => absurd z (Nat.not_le.mpr q1)) hS hd (h3 H locs ls hR hS hL)
theorem so_aald3 (hd : decode M.2.2.1 pc = .ok (.aaload, 1)) (hn : pc + 1 = nx) : ac_So M scr pc (op_aald 3 nx) := by
  subst hn
  intro p l e s m args below meth c base D A Q G lv st ah k n h H locs ls hR hS hL
  obtain ⟨-, hx, hb, -, -, hown, hts, -, -, hK, hbs, -⟩ := G
  obtain ⟨ws, hP, hD, hin1, -⟩ := ac_fullR hR
  obtain ⟨i, r1, rfl, g1⟩ := ac_i1v h
  obtain ⟨a, r, rfl, z, f, h1, h2, h3, h4⟩ := ac_a1v g1
  obtain ⟨q0, hq⟩ := hin1 a _ h1
  refine va_aldq (D := D) hx hb hK.1 hP q0 3 hq rfl h2 hd ?_
  cases hf : f i.toNatClampNeg with
  | none => exact h3 hf H locs ls hR hS hL
  | some q => exact h4 q hf H locs ls hR hS hL
theorem so_aald4 (hd : decode M.2.2.1 pc = .ok (.aaload, 1)) (hn : pc + 1 = nx) : ac_So M scr pc (op_aald 4 nx) := by
  subst hn
  intro p l e s m args below meth c base D A Q G lv st ah k n h H locs ls hR hS hL
  obtain ⟨-, hx, hb, -, -, hown, hts, -, -, hK, hbs, -⟩ := G
  obtain ⟨ws, hP, hD, hin1, -⟩ := ac_fullR hR
  obtain ⟨i, r1, rfl, g1⟩ := ac_i1v h
  obtain ⟨a, r, rfl, z, f, h1, h2, h3, h4⟩ := ac_a1v g1
  obtain ⟨q0, hq⟩ := hin1 a _ h1
  have hlt : i.toNatClampNeg < z := Nat.not_le.mp fun q => h2 (Or.inr q)
  refine W.aald (v := va_rf (f i.toNatClampNeg)) (ty := .array .int) hx hb (hP q0 _ hq) ((hK.1.2 4 _ rfl).1 z (fun j => va_rf (f j))) rfl (fun q => by cases q) (by show ¬ (i < 0 ∨ (arrV _ _ _).slots.size ≤ _); rw [arrV_size]; exact h2) (by show (arrV _ _ _).slots[_]? = _; rw [arrV_read _ _ hlt]) rfl rfl hd ?_
  cases hf : f i.toNatClampNeg with
  | none => exact h3 hf H locs ls hR hS hL
  | some q => exact h4 q hf H locs ls hR hS hL
theorem ac_itemv {ci : Nat} {X : Prop} (h : ac_item ci X) : (∃ r : vw_C, vwCl[ci]? = some r ∧ (r.1 = RX0 ∨ r.1 = RX2 ∨ r.1 = RX3 ∨ r.1 = RX4)) ∧ X := by
  match ci, h with
  | 4, h => exact ⟨⟨_, rfl, Or.inl rfl⟩, h⟩
  | 5, h => exact ⟨⟨_, rfl, Or.inr (Or.inl rfl)⟩, h⟩
  | 6, h => exact ⟨⟨_, rfl, Or.inr (Or.inr (Or.inl rfl))⟩, h⟩
  | 7, h => exact ⟨⟨_, rfl, Or.inr (Or.inr (Or.inr rfl))⟩, h⟩
theorem ac_caI : ∀ C ∈ [RX0, RX2, RX3, RX4], Cond.castable C "TypedHall$Item" ∈ ac_ng := by decide +kernel
theorem so_aast3 (hd : decode M.2.2.1 pc = .ok (.aastore, 1)) (hn : pc + 1 = nx) : ac_So M scr pc (op_aast 3 nx) := by
  subst hn
  intro p l e s m args below meth c base D A Q G lv st ah k n h H locs ls hR hS hL
  obtain ⟨-, hx, hb, -, -, hown, hts, -, -, hK, hbs, -⟩ := G
  obtain ⟨ws, hP, hD, hin1, -⟩ := ac_fullR hR
  rcases ac_n1v h with ⟨r0, rfl, g0⟩ | ⟨v, r0, rfl, g0⟩
  · obtain ⟨i, r1, rfl, g1⟩ := ac_i1v g0
    obtain ⟨a, r, rfl, z, f, h1, h2, h3⟩ := ac_a1v g1
    obtain ⟨q0, hq⟩ := hin1 a _ h1
    exact va_astqN (D := D) hx hb hK.1 hP hD hS q0 3 hq rfl h2 hd (fun H1 locs1 hP1 hD1 hS1 => h3 H1 locs1 ls (ac_setR (.inr (3, z, .inr (.inr (va_up f i.toNatClampNeg none)))) hD hin1 hq (ac_baseS hbs hS1) hP1) hS1 hL)
  · obtain ⟨i, r1, rfl, g1⟩ := ac_i1v g0
    obtain ⟨a, r, rfl, -, z, f, ci, fs, h1, h1v, h2⟩ := ac_a1v g1
    obtain ⟨⟨rc, hrc, hrn⟩, h2, h3⟩ := ac_itemv h2
    obtain ⟨q0, hq⟩ := hin1 a _ h1
    obtain ⟨qk, hqk⟩ := hin1 v _ h1v
    have hca : va_Nw (.castable rc.1 "TypedHall$Item") s := hK.2.2.2.2.2.1 _ (ac_caI rc.1 (by rcases hrn with q | q | q | q <;> rw [q] <;> simp))
    exact va_astqO (D := D) hx hb hK.1 hP hD hS q0 3 qk ci hq rfl hca hqk hrc h2 hd (fun H1 locs1 hP1 hD1 hS1 => h3 H1 locs1 ls (ac_setR (.inr (3, z, .inr (.inr (va_up f i.toNatClampNeg (some v))))) hD hin1 hq (ac_baseS hbs hS1) hP1) hS1 hL)
end ACH
section ACN
variable {p : Program} {l : Launch} {e : Env} {R : Room} {s : State} {m : MethodId} {args : Array Value} {below : List Frame} {meth : Method} {c : Code} {H : Heap} {locs : List Loc} {cells slots : Nat} {Q : State → Prop} {cc : ByteArray}
theorem ac_aastN0 {T : State} (X : Stand p l e R s m args below meth c T locs cells slots) (hexec : p.tables.exec = Jvm.exec) {a : Addr} {cell : Cell} {j : Int32} (hcell : T.heap[a]? = some cell) (harr : s.isArrayOf cell (.array .int)) (hknown : cell.vm ≠ .unknown)
    (hin : ¬ (j < 0 ∨ cell.slots.size ≤ j.toNatClampNeg))
    {g : JFrame} (hg : g.method = m) {rest : List Value} (hstack : g.stack = .null :: .int j :: .ref a :: rest) (hdg : decode c.code g.pc = .ok (.aastore, 1)) :
    Stand p l e R s m args below meth c (T.setCell a (cell.setSlot j.toNatClampNeg .null)) (locs ++ [⟨a, j.toNatClampNeg⟩]) cells slots ∧
      ∀ target, Steps p.tables e below ((T.setCell a (cell.setSlot j.toNatClampNeg .null)).setTop { g with pc := g.pc + 1, stack := rest }) target → Steps p.tables e below (T.setTop g) target := by
  have hT := State.isArrayOf_alike X.warmed.alike harr
  have hfit : T.fitsSlot cell.cls cell.vm j.toNatClampNeg .null = true := by
    obtain ⟨hobj, k, hk, comp, hkind⟩ := hT
    cases hvm : cell.vm <;> first | exact absurd hvm (hobj _) | simp [State.fitsSlot, State.slotType?, hk, hkind, fits]
  refine ⟨X.stored hcell _ _, fun target hrest => ?_⟩
  subst hg
  jvm_step X.here [hexec, hdg]
  refine aastore.wp_of_null (c := cell) (t := .array .int) X.here.top hstack hcell hT hin hknown (Nat.not_le.mp fun q => hin (Or.inr q)) hfit ?_
  intro acts
  rw [afterInstr_ok]
  exact hrest
theorem ac_WaastN (hexec : p.tables.exec = Jvm.exec) (hb : c.code = cc) {a : Addr} {cell : Cell} {j : Int32} (hcell : H[a]? = some cell) (harr : s.isArrayOf cell (.array .int)) (hknown : cell.vm ≠ .unknown) (hin : ¬ (j < 0 ∨ cell.slots.size ≤ j.toNatClampNeg))
    {g : JFrame} (hg : g.method = m) {rest : List Value} (hstack : g.stack = .null :: .int j :: .ref a :: rest) (hdg : decode cc g.pc = .ok (.aastore, 1))
    (kk : ∀ H' : Heap, H'[a]? = some (cell.setSlot j.toNatClampNeg .null) → H'.size = H.size → (∀ q, q ≠ a → H'[q]? = H[q]?) → W p l e R s m args below meth c H' (locs ++ [⟨a, j.toNatClampNeg⟩]) cells slots Q { g with pc := g.pc + 1, stack := rest }) :
    W p l e R s m args below meth c H locs cells slots Q g := by
  intro T hT X
  have hT' : T.heap[a]? = some cell := by rw [hT]; exact hcell
  obtain ⟨X', st⟩ := ac_aastN0 X hexec hT' harr hknown hin hg hstack (by rw [hb]; exact hdg)
  have hlt : a < T.heap.size := (Array.getElem?_eq_some_iff.mp hT').1
  obtain ⟨t', a1, b1⟩ := kk _ (heapAt_setCell_self _ hlt) (by rw [size_setCell, hT]) (fun q hq => by rw [heapAt_setCell_ne _ (Ne.symm hq), hT]) (T.setCell a (cell.setSlot j.toNatClampNeg .null)) rfl X'
  exact ⟨t', st t' a1, b1⟩
end ACN
section ACH
variable {M : ac_D} {scr : Nat → Nat → (Nat → Int32) → Prop} {pc nx tg : Nat}
theorem so_aast4 (hd : decode M.2.2.1 pc = .ok (.aastore, 1)) (hn : pc + 1 = nx) : ac_So M scr pc (op_aast 4 nx) := by
  subst hn
  intro p l e s m args below meth c base D A Q G lv st ah k n h H locs ls hR hS hL
  obtain ⟨-, hx, hb, -, -, hown, hts, -, -, hK, hbs, -⟩ := G
  obtain ⟨ws, hP, hD, hin1, -⟩ := ac_fullR hR
  rcases ac_n1v h with ⟨r0, rfl, g0⟩ | ⟨v, r0, rfl, g0⟩
  · obtain ⟨i, r1, rfl, g1⟩ := ac_i1v g0
    obtain ⟨a, r, rfl, z, f, h1, h2, h3⟩ := ac_a1v g1
    obtain ⟨q0, hq⟩ := hin1 a _ h1
    refine ac_WaastN hx hb (hP q0 _ hq) ((hK.1.2 4 _ rfl).1 z (fun j => va_rf (f j))) (fun h => by cases h) (by show ¬ (i < 0 ∨ (arrV _ _ _).slots.size ≤ _); rw [arrV_size]; exact h2) rfl rfl hd fun H1 e zz oq => ?_
    have hS1 := hS.put (k := i.toNatClampNeg) zz oq (hD.2 q0 _ hq)
    refine h3 H1 _ ls (ac_setR (.inr (4, z, .inr (.inr (va_up f i.toNatClampNeg none)))) hD hin1 hq (ac_baseS hbs hS1) (hP.set hD hq ?_ oq)) hS1 hL
    show H1[a]? = some (vp_cell _ _)
    rw [e]
    show some ((vp_cell (A 4) (z, .inr (.inr (.inr (.inr f))))).setSlot _ _) = _
    rw [vp_cell_q, vp_cell_q, arrV_store]
    congr 2
    funext q
    by_cases hq : q = i.toNatClampNeg
    · subst hq
      simp [updV, va_up, va_rf]
    · simp [updV, va_up, hq]
  · obtain ⟨i, r1, rfl, g1⟩ := ac_i1v g0
    obtain ⟨a, r, rfl, h4, -⟩ := ac_a1v g1
    cases h4
end ACH
