/-! ===== the JDK's copy of a row of longs ===== -/
def op_cloneJ (R : Room) (nx : Nat) : ac_op := fun P _ lv st h k n => ac_a1 st (fun a r => r = [] ∧ ∃ (z : Nat) (f : Nat → Int64) (w : Nat), h a = some (.inr (2, z, .inr (.inl f))) ∧ z ≤ w ∧ k + 1 ≤ R.cells ∧ n + w ≤ R.slots ∧ ∀ q : Nat, h q = none → P nx lv [.ref q] (ac_hs h q (.inr (2, z, .inr (.inl f)))) (k + 1) (n + w))
def op_castJ (nx : Nat) : ac_op := fun P _ lv st h k n => ac_a1 st (fun a r => ∃ (z : Nat) (f : Nat → Int64), h a = some (.inr (2, z, .inr (.inl f))) ∧ P nx lv (.ref a :: r) h k n)
def op_copyJ (nx : Nat) : ac_op := fun P _ lv st h k n => ac_i1 st (fun m r => ac_i1 r (fun dp r => ac_a1 r (fun a r => ac_i1 r (fun sp r => ac_a1 r (fun a0 r => r = [] ∧ ∃ (z0 z1 : Nat) (f g : Nat → Int64), h a0 = some (.inr (2, z0, .inr (.inl f))) ∧ h a = some (.inr (2, z1, .inr (.inl g))) ∧ ¬ sp < 0 ∧ ¬ dp < 0 ∧ ¬ m < 0 ∧ sp.toNatClampNeg + m.toNatClampNeg ≤ z0 ∧ dp.toNatClampNeg + m.toNatClampNeg ≤ z1 ∧ P nx lv [] (ac_hs h a (.inr (2, z1, .inr (.inl (va_cpy f g sp.toNatClampNeg dp.toNatClampNeg m.toNatClampNeg))))) k n)))))
def op_min (R : Room) (nx : Nat) : ac_op := fun P _ lv st h k n => ac_i1 st (fun y r => ac_i1 r (fun x r => r.length ≤ 4 ∧ k ≤ R.cells ∧ n ≤ R.slots ∧ P nx lv (.int (if y < x then y else x) :: r) h k n))
section ACJ
variable {M : ac_D} {scr : Nat → Nat → (Nat → Int32) → Prop} {pc nx idx : Nat}
theorem so_cloneJ (hd : decode M.2.2.1 pc = .ok (.invokevirtual idx, 3)) (hw : Cond.methodLink M.1 idx ⟨"[J", "clone", "()Ljava/lang/Object;"⟩ ∈ ac_gw) (hw2 : ∀ w ∈ [Cond.sameMethod "[J" "java/lang/Object" "clone" "()Ljava/lang/Object;", .native ⟨"java/lang/Object", "clone", "()Ljava/lang/Object;"⟩, .instanceMethod ⟨"java/lang/Object", "clone", "()Ljava/lang/Object;"⟩, .selects "[J" ⟨"[J", "clone", "()Ljava/lang/Object;"⟩ ⟨"java/lang/Object", "clone", "()Ljava/lang/Object;"⟩], w ∈ ac_gw) (hw3 : Cond.castable "[J" "java/lang/Cloneable" ∈ ac_ng) (hRm : 1 ≤ M.2.2.2.2.2.2.frames ∧ 14 ≤ M.2.2.2.2.2.2.locals) (hn : pc + 3 = nx) : ac_So M scr pc (op_cloneJ M.2.2.2.2.2.2 nx) := by
  subst hn
  intro p l e s m args below meth c base D A Q G lv st ah k n h H locs ls hR hS hL
  obtain ⟨hlt, hx, hb, hml, hr, hown, hts, hlk, htab, hK, hbs, hmn, hsc⟩ := G
  obtain ⟨a, r, rfl, rfl, z, f, w, h1, h2, h3, h4, h5⟩ := ac_a1v h
  obtain ⟨ws, hP, hD, hin1, -⟩ := ac_fullR hR
  obtain ⟨q0, hq⟩ := hin1 a _ h1
  refine va_clone (D := D) hx hb (hml.trans hL.1.symm) hown (hts _ hw) (hts _ (hw2 _ (by simp))) (hts _ (hw2 _ (by simp))) (hts _ (hw2 _ (by simp))) (hts _ (hw2 _ (by simp))) (hK.2.2.2.2.2.1 _ hw3) hK.1 hP hD hS (ac_newA hbs) q0 2 hq rfl (hK.1.2 2 _ rfl).2 (va_fit (F := fun j => .long (f j)) (fun i hi => rfl)) hRm.1 (by simpa using hRm.2) h3 (by show n + z ≤ _; omega) hd (fun q H1 hK1 hP1 hD1 hS1 => ?_)
  obtain ⟨q1, q2⟩ := ac_appR (.inr (2, z, .inr (.inl f))) hin1 (ac_baseS hbs hS1) hD1 hP1
  refine W.widen (k := k + 1) (n := n + w) (Nat.le_refl _) (by show n + z ≤ _; omega) ?_
  exact h5 q q1 H1 locs ls q2 hS1 hL
theorem so_castJ (hd : decode M.2.2.1 pc = .ok (.checkcast idx, 3)) (hw : Cond.classLink M.1 idx "[J" ∈ ac_gw) (hn : pc + 3 = nx) : ac_So M scr pc (op_castJ nx) := by
  subst hn
  intro p l e s m args below meth c base D A Q G lv st ah k n h H locs ls hR hS hL
  obtain ⟨hlt, hx, hb, hml, hr, hown, hts, hlk, htab, hK, hbs, hmn, hsc⟩ := G
  obtain ⟨a, r, rfl, z, f, h1, h2⟩ := ac_a1v h
  obtain ⟨ws, hP, hD, hin1, -⟩ := ac_fullR hR
  obtain ⟨q0, hq⟩ := hin1 a _ h1
  exact va_castA (D := D) hx hb hown (hts _ hw) hP q0 hq (hK.1.2 2 _ rfl).2 hd (h2 H locs ls hR hS hL)
theorem so_copyJ (hd : decode M.2.2.1 pc = .ok (.invokestatic idx, 3)) (hw : Cond.methodLink M.1 idx arraycopyName ∈ ac_gw) (hw2 : ∀ w ∈ [Cond.native arraycopyName, .static arraycopyName, .initialized "java/lang/System"], w ∈ ac_gw) (hRm : 1 ≤ M.2.2.2.2.2.2.frames ∧ nativeFrameWords "java/lang/System" "arraycopy" 5 + 11 ≤ M.2.2.2.2.2.2.locals) (hn : pc + 3 = nx) : ac_So M scr pc (op_copyJ nx) := by
  subst hn
  intro p l e s m args below meth c base D A Q G lv st ah k n h H locs ls hR hS hL
  obtain ⟨hlt, hx, hb, hml, hr, hown, hts, hlk, htab, hK, hbs, hmn, hsc⟩ := G
  obtain ⟨mm, r1, rfl, g1⟩ := ac_i1v h
  obtain ⟨dp, r2, rfl, g2⟩ := ac_i1v g1
  obtain ⟨a, r3, rfl, g3⟩ := ac_a1v g2
  obtain ⟨sp, r4, rfl, g4⟩ := ac_i1v g3
  obtain ⟨a0, r, rfl, rfl, z0, z1, f, g, h1, h2, h3, h4, h5, h6, h7, h8⟩ := ac_a1v g4
  obtain ⟨ws, hP, hD, hin1, -⟩ := ac_fullR hR
  obtain ⟨q0, hq0⟩ := hin1 a0 _ h1
  obtain ⟨q1, hq1⟩ := hin1 a _ h2
  exact va_copyl (D := D) hx hb (hml.trans hL.1.symm) hown (hts _ hw) (hts _ (hw2 _ (by simp))) (hts _ (hw2 _ (by simp))) (hts _ (hw2 _ (by simp))) hK.1 hP hD hS q0 q1 2 2 hq0 hq1 rfl rfl rfl h3 h4 h5 h6 h7 (fun _ _ => rfl) hRm.1 (by simpa using hRm.2) hd (fun H1 locs1 hP1 hD1 hS1 => h8 H1 locs1 ls (ac_setR (.inr (2, z1, .inr (.inl (va_cpy f g sp.toNatClampNeg dp.toNatClampNeg mm.toNatClampNeg)))) hD hin1 hq1 (ac_baseS hbs hS1) hP1) hS1 hL)
theorem so_min (hd : decode M.2.2.1 pc = .ok (.invokestatic idx, 3)) (hw : Cond.methodLink M.1 idx Lib.Math.min.name ∈ ac_gw) (hw2 : ∀ w ∈ [Cond.static Lib.Math.min.name, .initialized "java/lang/Math", .code Lib.Math.min.name Lib.Math.min.code 2 (some .int)], w ∈ ac_gw) (hRm : 1 ≤ M.2.2.2.2.2.2.frames ∧ 21 ≤ M.2.2.2.2.2.2.locals) (hn : pc + 3 = nx) : ac_So M scr pc (op_min M.2.2.2.2.2.2 nx) := by
  subst hn
  intro p l e s m args below meth c base D A Q G lv st ah k n h H locs ls hR hS hL
  obtain ⟨hlt, hx, hb, hml, hr, hown, hts, hlk, htab, hK, hbs, hmn, hsc⟩ := G
  obtain ⟨y, r1, rfl, g1⟩ := ac_i1v h
  obtain ⟨x, r, rfl, h4, h5, h6, h7⟩ := ac_i1v g1
  exact va_mmin hx hb (hml.trans hL.1.symm) hown (hts _ hw) (hts _ (hw2 _ (by simp))) (hts _ (hw2 _ (by simp))) (hts _ (hw2 _ (by simp))) hRm.1 (by have := ac_room h4; have := hRm.2; omega) h5 h6 hd (h7 H locs ls hR hS hL)
theorem ac_mw2 : ∀ w ∈ [Cond.static Lib.Math.min.name, .initialized "java/lang/Math", .code Lib.Math.min.name Lib.Math.min.code 2 (some .int)], w ∈ ac_gw := by decide +kernel
end ACJ
