/-! ===== contracts, calls ===== -/
def ac_cd (y : MethodName) (M : ac_D) : Cond := match M.2.2.2.2.2.1 with
  | [] => .code y M.2.2.1 M.2.2.2.1 M.2.2.2.2.1
  | hh => .codeWith y M.2.2.1 M.2.2.2.1 M.2.2.2.2.1 hh
def ac_ws (y : MethodName) (M : ac_D) : List Cond := ac_cd y M :: ac_gw
/-- the contract: what T asks is enough on the machine -/
def ac_Ct (y : MethodName) (M : ac_D) (T : ac_T) : Prop := ∀ (l : Launch) (base : Nat) (D : va_G) (A : Nat → ClassId) (as : List Value) (ah : ac_H) (Q : ac_Q), l.stackTraces = false → T as ah Q →
  vx_Met l y (ac_ws y M) M.2.2.2.2.2.2 (va_Pc as (fun U => ac_Rep base D A ah U.heap ∧ ac_KN base D A U U.heap ∧ base ≤ U.heap.size)) (ac_Qc base D A Q) (ac_XC base D A Q) M.2.2.2.2.2.2.cells M.2.2.2.2.2.2.slots (ac_B base)
theorem ac_gw_good {w : Cond} (h : w ∈ ac_gw) : goodWord w = true := (List.mem_filter.mp h).2
theorem ac_gwG : GoodIn ac_gw ac_gw := fun w h => ⟨h, good_of_word (ac_gw_good h)⟩
theorem ac_wsG {y : MethodName} {M : ac_D} (h : ac_cd y M ∈ ac_gw) : GoodIn ac_gw (ac_ws y M) := fun w hw => by
  rcases List.mem_cons.mp hw with rfl | hw
  · exact ac_gwG _ h
  · exact ac_gwG _ hw
theorem ac_ng_on {w : Cond} (h : w ∈ ac_ng) : w.onTables = true := by
  have h1 := (List.mem_filter.mp h).2
  cases w <;> first | rfl | (simp [ac_ngw] at h1)
theorem ac_ng_warm {w : Cond} {s U : State} (h : w ∈ ac_ng) (hW : s.WarmedH U.vm) (hw : va_Nw w s) : va_Nw w U := by
  have h1 := (List.mem_filter.mp h).2
  cases w with
  | fieldLinkNest => exact va_Nw.warmF hW hw
  | methodLinkNest => exact va_Nw.warmM hW hw
  | declares => exact va_Nw.warmD hW hw
  | castable => exact va_Nw.warmC hW hw
  | _ => simp [ac_ngw] at h1
theorem ac_KN.moved {base : Nat} {D : va_G} {A : Nat → ClassId} {s U : State} {H H1 : Heap} (hW : s.WarmedH U.vm) (hq : ∀ q : Nat, q < H.size → ¬ ac_B base q → H1[q]? = H[q]?) (hb : base ≤ H.size) (h : ac_KN base D A s H) : ac_KN base D A U H1 := by
  obtain ⟨h1, h2, h3, ⟨zn, z1, z2, z3⟩, h5, h6, h7, h8⟩ := h
  refine ⟨va_K.moved hW.alike h1, (h2.moved hW.alike).kept hq, (h3.moved hW.alike).kept hq, ⟨zn, (z1.moved hW.alike).kept hq, (va_X.moved hW.alike z2).kept (hq zn (Nat.lt_of_lt_of_le z3 hb) (fun z => absurd z (Nat.not_le.mpr z3))), z3⟩, fun q hq => (h5 q hq).moved hW.alike, fun w hw => ac_ng_warm hw hW (h6 w hw), h7.moved hW.alike, h8.moved hW.alike⟩
theorem ac_popv : ∀ {i : Nat} {st acc : List Value} {K : List Value → List Value → Prop}, ac_pop i st acc K → ∃ as r, st = as ++ r ∧ as.length = i ∧ K (as.reverse ++ acc) r
  | 0, st, acc, K, h => by
    have h : K acc st := by cases st <;> exact h
    exact ⟨[], st, rfl, rfl, h⟩
  | i + 1, [], acc, K, h => False.elim h
  | i + 1, v :: st, acc, K, h => by
    obtain ⟨as, r, e1, e2, e3⟩ := ac_popv (i := i) (st := st) (acc := v :: acc) h
    exact ⟨v :: as, r, by rw [e1]; rfl, by simp [e2], by simpa using e3⟩
/-- n values off the stack, in the order of the parameters -/
theorem ac_popw {i : Nat} {st : List Value} {K : List Value → List Value → Prop} (h : ac_pop i st [] K) : ∃ as r, st = as.reverse ++ r ∧ as.length = i ∧ K as r := by
  obtain ⟨as, r, e1, e2, e3⟩ := ac_popv h
  exact ⟨as.reverse, r, by rw [List.reverse_reverse]; exact e1, by rw [List.length_reverse]; exact e2, by simpa using e3⟩
theorem ac_cat (v : Value) : v.category ≤ 2 := by rcases lv_cat v with h | h <;> omega
theorem ac_room : ∀ {r : List Value}, r.length ≤ 4 → (r.map fun v => v.category).sum ≤ 8 := by
  intro r h
  have key : ∀ r : List Value, (r.map fun v => v.category).sum ≤ 2 * r.length := by
    intro r
    induction r with
    | nil => simp
    | cons a t ih =>
      have := ac_cat a
      simp only [List.map_cons, List.sum_cons, List.length_cons]
      omega
  have := key r
  omega
section ACR
variable {p : Program} {l : Launch} {e : Env} {s : State} {m : MethodId} {args : Array Value} {below : List Frame} {meth : Method} {c : Code} {H : Heap} {locs : List Loc} {k n : Nat} {QQ : State → Prop} {M : ac_D} {scr : Nat → Nat → (Nat → Int32) → Prop}
variable {base : Nat} {D : va_G} {A : Nat → ClassId} {Q : ac_Q} {R : Room} {pc nx mc ms : Nat} {ls : Array Slot} {st rest : List Value} {a : Array Value}
theorem ac_frS {H1 : Heap} {L : List Loc} {st₀ t T' : State} (hS : va_S (ac_B base) s.heap H locs) (h0 : st₀.heap = H) (e1 : T'.heap = t.heap) (hL : ∀ q ∈ L, ac_B base q.base) (hF : va_F (ac_B base) st₀ t) : va_S (ac_B base) s.heap T'.heap (locs ++ L) := by
  obtain ⟨f1, f2⟩ := hF
  rw [h0] at f1 f2
  refine ⟨by rw [e1]; exact Nat.le_trans hS.1 f1, fun q h1 h2 => by rw [e1, f2 q (Nat.lt_of_lt_of_le h1 hS.1) h2]; exact hS.2.1 q h1 h2, fun z hz => ?_⟩
  rcases List.mem_append.mp hz with h | h
  · exact hS.2.2 z h
  · exact hL z h
/-- behind a call -/
theorem ac_run {Qn : ac_Q} (hr : vx_Run p l e R s m args below meth c H locs k n mc ms (F0 m pc ls st) rest (ac_Qc base D A Qn a) (ac_XC base D A Qn) (ac_B base)) (hS : va_S (ac_B base) s.heap H locs)
    (kret : ∀ (v : Option Value) (ah : ac_H) (H1 : Heap) (locs1 : List Loc), Qn (.inl v) ah → ac_Rep base D A ah H1 → va_S (ac_B base) s.heap H1 locs1 → W p l e R s m args below meth c H1 locs1 (k + mc) (n + ms) QQ (F0 m (pc + 3) ls (v.toList ++ rest)))
    (kthr : ∀ (x : Nat) (ah : ac_H) (H1 : Heap) (locs1 : List Loc) (ce : Cell) (q : Addr), Qn (.inr x) ah → ac_Rep base D A ah H1 → va_S (ac_B base) s.heap H1 locs1 → H1[q]? = some ce → ce.vm = .none → s.vm.findClass (ac_xn x) = some ce.cls → vx_W p l e R s m args below meth c H1 locs1 (k + mc) (n + ms) QQ (F0 m pc ls rest) q) :
    W p l e R s m args below meth c H locs k n QQ (F0 m pc ls st) := by
  intro T hT X
  rcases hr T hT X with ⟨v, st₀, t, T', L, h0, X', hL, e1, e2, ⟨v', ah, hv, hQ, hR, hF⟩, sg⟩ | ⟨q, st₀, t, T', L, E, ce, h0, X', hL, e1, e2, ⟨x, ah, hxE, hQ, hR, hF⟩, hce, hcv, hcl, sg⟩
  · cases hv
    obtain ⟨t2, a1, b1⟩ := kret v ah T'.heap (locs ++ L) hQ (by rw [e1]; exact hR) (ac_frS (H1 := H) hS h0 e1 hL hF) T' rfl X'
    exact ⟨t2, sg t2 a1, b1⟩
  · subst hxE
    obtain ⟨t2, a1, b1⟩ := kthr x ah T'.heap (locs ++ L) ce q hQ (by rw [e1]; exact hR) (ac_frS (H1 := H) hS h0 e1 hL hF) (by rw [e1]; exact hce) hcv hcl T' rfl X'
    exact ⟨t2, sg.trans a1, b1⟩
theorem ac_ncF : ∀ x : Fin 7, ∀ y : Fin 7, x = y ∨ (ac_xn x.val, ac_xn y.val) ∈ ac_nc := by decide +kernel
theorem ac_ncx (x : Nat) (hx : x < 7) (y : Nat) (hy : y < 7) (h : x ≠ y) : (ac_xn x, ac_xn y) ∈ ac_nc := (ac_ncF ⟨x, hx⟩ ⟨y, hy⟩).resolve_left (fun q => h (congrArg Fin.val q))
theorem ac_cax : ∀ x, x < 7 → Cond.castable (ac_xn x) (ac_xn x) ∈ ac_ng := by decide +kernel
/-- the rows of a table that are the law's -/
def ac_tb (own : String) (hh : List (Nat × Nat × Nat × Nat)) : Prop := ∀ q ∈ hh, q.2.2.2 ≠ 0 ∧ ac_cx q.2.2.2 < 7 ∧ Cond.classLink own q.2.2.2 (ac_xn (ac_cx q.2.2.2)) ∈ ac_gw
theorem ac_fndv {hh : List (Nat × Nat × Nat × Nat)} {x : Nat} : match ac_fnd hh pc x with
    | none => ∀ q ∈ hh, (¬ (q.1 ≤ pc ∧ pc < q.2.1)) ∨ ac_cx q.2.2.2 ≠ x
    | some t => ∃ pre q suf, hh = pre ++ q :: suf ∧ q.2.2.1 = t ∧ (q.1 ≤ pc ∧ pc < q.2.1) ∧ ac_cx q.2.2.2 = x ∧ ∀ z ∈ pre, (¬ (z.1 ≤ pc ∧ pc < z.2.1)) ∨ ac_cx z.2.2.2 ≠ x := by
  induction hh with
  | nil => intro q hq; cases hq
  | cons q r ih =>
    by_cases hc : (Nat.ble q.1 pc && (Nat.ble (pc + 1) q.2.1 && Nat.beq (ac_cx q.2.2.2) x)) = true
    · have e : ac_fnd (q :: r) pc x = some q.2.2.1 := by show cond _ _ _ = _; rw [hc]; rfl
      rw [e]
      simp only [Bool.and_eq_true, Nat.ble_eq, Nat.beq_eq] at hc
      exact ⟨[], q, r, rfl, rfl, ⟨hc.1, hc.2.1⟩, hc.2.2, fun z hz => by cases hz⟩
    · have e : ac_fnd (q :: r) pc x = ac_fnd r pc x := by
        show cond _ _ _ = _
        rw [Bool.eq_false_iff.mpr hc]; rfl
      have hq : (¬ (q.1 ≤ pc ∧ pc < q.2.1)) ∨ ac_cx q.2.2.2 ≠ x := by
        simp only [Bool.and_eq_true, Nat.ble_eq, Nat.beq_eq] at hc
        by_cases h1 : q.1 ≤ pc ∧ pc < q.2.1
        · exact Or.inr fun h2 => hc ⟨h1.1, h1.2, h2⟩
        · exact Or.inl h1
      rw [e]
      cases hf : ac_fnd r pc x with
      | none =>
        rw [hf] at ih
        intro z hz
        rcases List.mem_cons.mp hz with rfl | hz
        · exact hq
        · exact ih z hz
      | some t =>
        rw [hf] at ih
        obtain ⟨pre, z, suf, e1, e2, e3, e4, e5⟩ := ih
        refine ⟨q :: pre, z, suf, by rw [e1]; rfl, e2, e3, e4, fun w hw => ?_⟩
        rcases List.mem_cons.mp hw with rfl | hw
        · exact hq
        · exact e5 w hw
theorem ac_cov {q : Nat × Nat × Nat × Nat} : covers (⟨q.1, q.2.1, q.2.2.1, q.2.2.2⟩ : ExceptionTableEntry) pc = true ↔ (q.1 ≤ pc ∧ pc < q.2.1) := by simp [covers]
/-- what the continuation of a call asks is enough -/
theorem ac_kov {ah : ac_H} {lv : ac_V} {x : Nat} {locs1 : List Loc} {H1 : Heap} {ce : Cell} {q : Addr} (G : ac_G l p s m args meth c M base D A scr) (htb : ac_tb M.1 M.2.2.2.2.2.1) (hk : k ≤ M.2.2.2.2.2.2.cells) (hn : n ≤ M.2.2.2.2.2.2.slots) (hL : ac_L ls M.2.2.2.1 lv)
    (h : ac_ko M.2.2.2.2.2.1 pc nx (ac_W p l e s m args below meth c M.2.2.2.1 M.2.2.2.2.2.2 base D A Q) Q lv rest k n (.inr x) ah) (hR : ac_Rep base D A ah H1) (hS : va_S (ac_B base) s.heap H1 locs1) (hce : H1[q]? = some ce) (hcv : ce.vm = .none) (hcl : s.vm.findClass (ac_xn x) = some ce.cls) :
    vx_W p l e M.2.2.2.2.2.2 s m args below meth c H1 locs1 k n (vx_MQ below (ac_Qc base D A Q) (ac_XC base D A Q) args s M.2.2.2.2.2.2.cells M.2.2.2.2.2.2.slots (ac_B base)) (F0 m pc ls rest) q := by
  obtain ⟨hl, hx, hb, hml, hr, hown, hts, hlk, htab, hK, hbs, hmn, hsc⟩ := G
  obtain ⟨hx7, h⟩ := h
  have hf := ac_fndv (pc := pc) (hh := M.2.2.2.2.2.1) (x := x)
  have hpass : ∀ z ∈ M.2.2.2.2.2.1, ((¬ (z.1 ≤ pc ∧ pc < z.2.1)) ∨ ac_cx z.2.2.2 ≠ x) → covers (⟨z.1, z.2.1, z.2.2.1, z.2.2.2⟩ : ExceptionTableEntry) pc = false ∨ (z.2.2.2 ≠ 0 ∧ ∃ nm : String, (Cond.classLink M.1 z.2.2.2 nm).before args s = true ∧ va_Nc (ac_xn x) nm s) := by
    intro z hz h1
    rcases h1 with h1 | h1
    · refine Or.inl ?_
      cases hc : covers (⟨z.1, z.2.1, z.2.2.1, z.2.2.2⟩ : ExceptionTableEntry) pc with
      | false => rfl
      | true => exact absurd (ac_cov.mp hc) h1
    · obtain ⟨t1, t2, t3⟩ := htb z hz
      exact Or.inr ⟨t1, _, hts _ t3, hK.2.2.2.2.1 _ (ac_ncx x hx7 _ t2 (Ne.symm h1))⟩
  cases hfx : ac_fnd M.2.2.2.2.2.1 pc x with
  | none =>
    rw [hfx] at hf h
    refine vx_outP hown hlk (fun z hz => ?_) hce hcv hcl (fun t ht hvm => ⟨x, ah, rfl, h, by rw [ht]; exact hR, hS.F ht⟩) hS.2.2 hk hn
    rw [htab] at hz
    obtain ⟨z0, hz0, rfl⟩ := List.mem_map.mp hz
    exact hpass z0 hz0 (hf z0 hz0)
  | some t =>
    rw [hfx] at hf h
    obtain ⟨pre, z, suf, e1, e2, e3, e4, e5⟩ := hf
    have hzin : z ∈ M.2.2.2.2.2.1 := by rw [e1]; simp
    obtain ⟨t1, t2, t3⟩ := htb z hzin
    rw [e4] at t3
    refine vx_catch hown (pre.map fun q => ⟨q.1, q.2.1, q.2.2.1, q.2.2.2⟩) ⟨z.1, z.2.1, z.2.2.1, z.2.2.2⟩ (suf.map fun q => ⟨q.1, q.2.1, q.2.2.1, q.2.2.2⟩) (by rw [htab, e1]; simp [tableOf]) (fun w hw => ?_) (ac_cov.mpr e3) t1 (hts _ t3) (va_Nw.use rfl (hK.2.2.2.2.2.1 _ (ac_cax x hx7))) hce hcv hcl ?_
    · obtain ⟨w0, hw0, rfl⟩ := List.mem_map.mp hw
      exact hpass w0 (by rw [e1]; simp [hw0]) (e5 w0 hw0)
    · have h : ∀ a : Nat, _ := h
      show W p l e _ s m args below meth c H1 locs1 k n _ (F0 m z.2.2.1 ls [.ref q])
      rw [e2]
      exact h q H1 locs1 ls hR hS hL
end ACR
