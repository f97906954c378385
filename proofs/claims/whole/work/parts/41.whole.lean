/-! ===== the claim out of the law's condition ===== -/
def lw_P (b : Addr) (xs : List Int32) (args : Array Value) (s : State) : Prop := args = #[.ref b] ∧ s.IntsAt b xs ∧ xs.length ≤ 3072 ∧ (Jvm.Cond.and given_1 narrow_1).before args s = true
def lw_Q (_ : Array Value) (s : State) (o : Outcome) (t : State) : Prop := o = .returned (some (.int 1)) ∧ Framed s o t [] 603072 7207018
def lw_Z (below : List Frame) (a : Array Value) (s : State) : State → Prop := fun t => ∃ o, t.status = .running ∧ Ended t below o ∧ lw_Q a s o t
def lw_At (p : Program) (s : State) (m : MethodId) (meth : Method) (c : Code) (b L : Nat) (xs : Nat → Int32) : Prop :=
  p.tables.exec = Jvm.exec ∧ c.code = code ∧ meth.sig.returnType = ret ∧ c.maxLocals = 8 ∧ s.vm.findClass RL = some m.cls ∧ (∀ w ∈ lw_tbl, w.before #[Value.ref b] s = true) ∧ va_X b L xs s s.heap ∧ b < s.heap.size ∧ meth.locks = false ∧ (Jvm.Cond.and given_1 narrow_1).before #[Value.ref b] s = true ∧ c.exceptionTable.toList = tableOf [] ∧ meth.name = "law"
/-- a class of vwCl is known by the tables -/
def wh_K (s : State) (q : vw_C) : Prop := ∃ pq : ClassId × (Nat → Nat), u_Kn s q.1 q.2.1 q.2.2 pq.1 pq.2
theorem wh_k {s : State} {args : Array Value} (hts : ∀ w ∈ lw_tbl, w.before args s = true) {C : String} {T : u_T} {N n : Nat} (h1 : ∀ w ∈ u_ws C T N, w ∈ lw_tbl) (h2 : Cond.instantiable C n ∈ lw_tbl) : wh_K s (C, T, N) := by
  obtain ⟨cC, iS, h⟩ := u_known (ws := lw_tbl) hts h1 (hts _ h2)
  exact ⟨(cC, iS), h⟩
set_option maxRecDepth 100000 in
theorem wh_i0 : ∀ w ∈ u_ws RJ0 TJ0 2, w ∈ lw_tbl := by decide +kernel
set_option maxRecDepth 100000 in
theorem wh_i1 : ∀ w ∈ u_ws RJx00060 TJx00060 6, w ∈ lw_tbl := by decide +kernel
set_option maxRecDepth 100000 in
theorem wh_i2 : ∀ w ∈ u_ws RJxde1cd TJxde1cd 6, w ∈ lw_tbl := by decide +kernel
set_option maxRecDepth 100000 in
theorem wh_i3 : ∀ w ∈ u_ws RJx5d777 TJx5d777 8, w ∈ lw_tbl := by decide +kernel
set_option maxRecDepth 100000 in
theorem wh_i4 : ∀ w ∈ u_ws RX0 TX0 1, w ∈ lw_tbl := by decide +kernel
set_option maxRecDepth 100000 in
theorem wh_i5 : ∀ w ∈ u_ws RX2 TX2 2, w ∈ lw_tbl := by decide +kernel
set_option maxRecDepth 100000 in
theorem wh_i6 : ∀ w ∈ u_ws RX3 TX3 3, w ∈ lw_tbl := by decide +kernel
set_option maxRecDepth 100000 in
theorem wh_i7 : ∀ w ∈ u_ws RX4 TX4 3, w ∈ lw_tbl := by decide +kernel
set_option maxRecDepth 100000 in
theorem wh_i8 : ∀ w ∈ u_ws RX5 TX5 2, w ∈ lw_tbl := by decide +kernel
set_option maxRecDepth 100000 in
theorem wh_i9 : ∀ w ∈ u_ws RX6 TX6 12, w ∈ lw_tbl := by decide +kernel
set_option maxRecDepth 100000 in
theorem wh_kn {s : State} {args : Array Value} (hts : ∀ w ∈ lw_tbl, w.before args s = true) : ∀ q ∈ vwCl, wh_K s q :=
  List.forall_mem_cons.mpr ⟨wh_k hts (n := 4) wh_i0 (by decide +kernel), List.forall_mem_cons.mpr ⟨wh_k hts (n := 6) wh_i1 (by decide +kernel), List.forall_mem_cons.mpr ⟨wh_k hts (n := 6) wh_i2 (by decide +kernel), List.forall_mem_cons.mpr ⟨wh_k hts (n := 8) wh_i3 (by decide +kernel), List.forall_mem_cons.mpr ⟨wh_k hts (n := 1) wh_i4 (by decide +kernel), List.forall_mem_cons.mpr ⟨wh_k hts (n := 2) wh_i5 (by decide +kernel), List.forall_mem_cons.mpr ⟨wh_k hts (n := 3) wh_i6 (by decide +kernel), List.forall_mem_cons.mpr ⟨wh_k hts (n := 3) wh_i7 (by decide +kernel), List.forall_mem_cons.mpr ⟨wh_k hts (n := 2) wh_i8 (by decide +kernel), List.forall_mem_cons.mpr ⟨wh_k hts (n := 12) wh_i9 (by decide +kernel), fun _ h => absurd h List.not_mem_nil⟩⟩⟩⟩⟩⟩⟩⟩⟩⟩
theorem wh_D {s : State} {args : Array Value} (hts : ∀ w ∈ lw_tbl, w.before args s = true) : ∃ D : va_G, ∀ (c : Nat) (q : vw_C), vwCl[c]? = some q → u_Kn s q.1 q.2.1 q.2.2 (D.1 c) (D.2 c) := by
  have h : ∀ c : Nat, ∃ pq : ClassId × (Nat → Nat), ∀ q : vw_C, vwCl[c]? = some q → u_Kn s q.1 q.2.1 q.2.2 pq.1 pq.2 := by
    intro c
    cases hc : vwCl[c]? with
    | none => exact ⟨(0, fun _ => 0), fun q h => (by cases h)⟩
    | some q =>
      obtain ⟨pq, h⟩ := wh_kn hts q (List.mem_of_getElem? hc)
      exact ⟨pq, fun q' e => by cases e; exact h⟩
  exact ⟨(fun c => (Classical.choose (h c)).1, fun c => (Classical.choose (h c)).2), fun c q hc => Classical.choose_spec (h c) q hc⟩
/-- the classes of the arrays -/
theorem wh_A0 {s : State} {args : Array Value} {ty : FieldType} (hty : ∀ C, ty ≠ .object C) (h : (Cond.arrayClass ty).before args s = true) : ∃ cA : ClassId, ArrOfT s cA ty ∧ va_RA s cA ty := by
  obtain ⟨cA, kA, comp, hf, hk, hkind⟩ := Cond.arrayClass_spec h
  refine ⟨cA, fun n z => ⟨fun k h => (by cases h), kA, hk, comp, hkind⟩, ?_⟩
  cases ty with
  | object C => exact absurd rfl (hty C)
  | _ => exact hf
theorem wh_A3 {s : State} {args : Array Value} {C : String} (h : (Cond.arrayOver (.object C)).before args s = true) : ∃ cA : ClassId, ArrOfT s cA (.object C) ∧ va_RA s cA (.object C) := by
  obtain ⟨comp, cA, kA, hcomp, -, hk, hkind, hname⟩ := Cond.arrayOver_spec h
  exact ⟨cA, fun n z => ⟨fun k h => (by cases h), kA, hk, comp, hkind⟩, kA, comp, hk, hkind, hcomp, hname⟩
theorem wh_A4 {s : State} {args : Array Value} {t : FieldType} (h : (Cond.arrayOver (.array t)).before args s = true) : ∃ cA : ClassId, ArrOfT s cA (.array t) ∧ va_RA s cA (.array t) := by
  obtain ⟨comp, cA, kA, hcomp, -, hk, hkind, hname⟩ := arrayOverA_spec h
  exact ⟨cA, fun n z => ⟨fun k h => (by cases h), kA, hk, comp, hkind⟩, hname⟩
set_option maxRecDepth 100000 in
theorem wh_A {s : State} {args : Array Value} (hts : ∀ w ∈ lw_tbl, w.before args s = true) : ∃ A : Nat → ClassId, ∀ (k : Nat) (q : ClassId × FieldType), (ac_tys A)[k]? = some q → ArrOfT s q.1 q.2 ∧ va_RA s q.1 q.2 := by
  obtain ⟨c0, h0⟩ := wh_A0 (ty := .int) (fun C h => (by cases h)) (hts _ (by decide +kernel))
  obtain ⟨c1, h1⟩ := wh_A0 (ty := .boolean) (fun C h => (by cases h)) (hts _ (by decide +kernel))
  obtain ⟨c2, h2⟩ := wh_A0 (ty := .long) (fun C h => (by cases h)) (hts _ (by decide +kernel))
  obtain ⟨c3, h3⟩ := wh_A3 (C := "TypedHall$Item") (hts _ (by decide +kernel))
  obtain ⟨c4, h4⟩ := wh_A4 (t := .int) (hts _ (by decide +kernel))
  refine ⟨fun k => match k with | 0 => c0 | 1 => c1 | 2 => c2 | 3 => c3 | _ => c4, fun k q hq => ?_⟩
  match k, hq with
  | 0, hq => cases hq; exact h0
  | 1, hq => cases hq; exact h1
  | 2, hq => cases hq; exact h2
  | 3, hq => cases hq; exact h3
  | 4, hq => cases hq; exact h4
  | k + 5, hq => simp [ac_tys] at hq
theorem wh_len {s : State} {args : Array Value} {t : Term} {v : Value} {b : Addr} {cell : Cell} (hv : (Term.length t).eval args s none [] s = some v) (ht : t.eval args s none [] s = some (.ref b)) (harr : s.arrayAt? b = some cell) : cell.slots.size < 2 ^ 31 := by
  simp only [Term.eval, ht, harr, Option.bind_eq_bind, Option.bind_some] at hv
  by_cases hlt : cell.slots.size < 2147483648
  · exact hlt
  · simp [hlt] at hv
/-- the class's empty array -/
theorem wh_N {s : State} {args : Array Value} (hl : (Cond.laysStatic "TypedHall" "NO_ELEMENTS" "[I").before args s = true) (hini : (Cond.initialized "TypedHall").before args s = true) (ha : (Cond.arrayOf (.static "TypedHall" "NO_ELEMENTS" "[I") .int).before args s = true) (he : (Cond.eq (.length (.static "TypedHall" "NO_ELEMENTS" "[I")) (.int 0)).before args s = true) (hA : ∀ a : Nat, a < s.heap.size → ¬ ac_B s.heap.size a) :
    ∃ zn : Nat, va_Z "TypedHall" "NO_ELEMENTS" "[I" (.ref zn) (ac_B s.heap.size) s s.heap ∧ va_X zn 0 (fun _ => 0) s s.heap ∧ zn < s.heap.size := by
  have hev : ∃ v, (Term.length (.static "TypedHall" "NO_ELEMENTS" "[I")).eval args s none [] s = some v := by
    cases hv : (Term.length (.static "TypedHall" "NO_ELEMENTS" "[I")).eval args s none [] s with
    | none => simp [Cond.before, Cond.holds, Cond.value, hv] at he
    | some v => exact ⟨v, rfl⟩
  obtain ⟨v, hv⟩ := hev
  obtain ⟨a, cell, ht, harr, rfl⟩ := Term.length_spec hv
  have hsz : cell.slots.size < 2 ^ 31 := wh_len hv ht harr
  have h0 : cell.slots.size.toInt32 = 0 := by
    have h := Cond.eq_ints hv (show (Term.int 0).eval args s none [] s = some (.int 0) from rfl)
    simpa [Cond.before, Cond.holds, h] using he
  have h00 : cell.slots.size = 0 := by
    have h := congrArg Int32.toInt (show Int32.ofNat cell.slots.size = 0 from h0)
    rw [Int32.toInt_ofNat_small hsz] at h
    have : ((cell.slots.size : Nat) : Int) = 0 := h
    omega
  obtain ⟨hcell, hkn, -, -⟩ := State.arrayAt?_spec harr
  have hof := Cond.arrayOf_spec ha ht hcell
  exact ⟨a, va_Zof hl hini ht hA, ⟨cell, hcell, hof.1, hof.2, h00, fun j hj => absurd hj (Nat.not_lt_zero j)⟩, (Array.getElem?_eq_some_iff.mp hcell).1⟩
set_option maxRecDepth 100000 in
theorem wh_nc : ∀ q ∈ ac_nc, Cond.not (.castable q.1 q.2) ∈ flatC (Jvm.Cond.and given_1 narrow_1) := by decide +kernel
set_option maxRecDepth 100000 in
theorem wh_ng : ∀ w ∈ ac_ng, w.onTables = true := by decide +kernel
set_option maxRecDepth 100000 in
theorem wh_KN {s : State} {args : Array Value} (hts : ∀ w ∈ lw_tbl, w.before args s = true) (hgv : (Jvm.Cond.and given_1 narrow_1).before args s = true) : ∃ (D : va_G) (A : Nat → ClassId), ac_KN s.heap.size D A s s.heap := by
  obtain ⟨D, hD⟩ := wh_D hts
  obtain ⟨A, hA⟩ := wh_A hts
  have hs := flat_of_before _ hgv
  have hB : ∀ a : Nat, a < s.heap.size → ¬ ac_B s.heap.size a := fun a h => Nat.not_le.mpr h
  exact ⟨D, A, ⟨hD, hA⟩, vx_Zqof (hts _ (by decide +kernel)) (hts _ (by decide +kernel)) (hs _ (by decide +kernel)) hB, vx_Zqof (hts _ (by decide +kernel)) (hts _ (by decide +kernel)) (hs _ (by decide +kernel)) hB,
    wh_N (hts _ (by decide +kernel)) (hts _ (by decide +kernel)) (hs _ (by decide +kernel)) (hs _ (by decide +kernel)) hB,
    fun q hq => va_Nc.of (hs _ (wh_nc q hq)), fun w hw => va_Nw.of (wh_ng w hw) (hts w (List.mem_filter.mp hw).1),
    va_AO.of (hts _ (by decide +kernel)), (hts (.arrayOver (.array .int)) (by decide +kernel) : (Cond.arrayOver (.array .int)).before args s = true)⟩
theorem whole_start {p : Program} {e : Env} {s : State} {m : MethodId} {below : List Frame} {meth : Method} {c : Code} (l : Launch) (hl : l.stackTraces = false) {b L : Nat} {xs : Nat → Int32} (hL : L ≤ 3072) (C0 : lw_At p s m meth c b L xs) : W p l e room_1 s m #[Value.ref b] below meth c s.heap [] 0 0 (lw_Z below #[Value.ref b] s) (entryFrame m ([Value.ref b] : List Value).toArray 8) := by
  obtain ⟨hexec, hcode, hret, hml, hown, hts, hX, hb, hlocks, hgv, htab, hname⟩ := C0
  obtain ⟨D, A, hK⟩ := wh_KN hts hgv
  have key := ac_bodyL (M := M_L_law) (e := e) (below := below) (as := [.ref b]) (ah := fun _ => none) (s_law (fun b' L' xs' => b' = b ∧ L' = L ∧ xs' = xs))
    (⟨hl, hexec, hcode, hml, hret, hown, fun w hw => hts w (List.mem_filter.mp hw).1, hlocks, htab, hK, Nat.le_refl _, hname, fun b' L' xs' h => by
      obtain ⟨rfl, rfl, rfl⟩ := h
      exact ⟨hb, hX⟩⟩ : ac_G l p s m ([.ref b] : List Value).toArray meth c M_L_law s.heap.size D A (fun b' L' xs' => b' = b ∧ L' = L ∧ xs' = xs))
    (⟨Nat.le_refl _, fun _ _ h => (by cases h)⟩ : ac_Rep s.heap.size D A (fun _ => none) s.heap) (law_vc (scr := fun b' L' xs' => b' = b ∧ L' = L ∧ xs' = xs) (sa := b) (L := L) (xs := xs) ⟨rfl, rfl, rfl⟩ hL)
  intro T hT X
  obtain ⟨t, a1, o, b1, b2, b3⟩ := key T hT X
  refine ⟨t, a1, o, b1, b2, ?_⟩
  rcases b3 with ⟨⟨v, ah, rfl, h2, -, -⟩, Ls, hF, hfree⟩ | ⟨q, rfl, E, ce, Ls, ⟨x, ah, -, h2, -⟩, -⟩
  · cases h2
    exact ⟨rfl, hF.1, hF.2.1, hF.2.2.weaken (fun y hy hlt => absurd hlt (Nat.not_lt.mpr (hfree y hy))) (Nat.le_refl _) (Nat.le_refl _)⟩
  · cases h2
set_option maxHeartbeats 4000000 in
theorem lw_walk (l : Launch) (hl : l.stackTraces = false) (b : Addr) (xs : List Int32) : MetFree l x (headSpec (Jvm.Cond.code x code maxLocals ret :: tables_1) room_1) (lw_P b xs) (fun _ _ _ _ _ => True) lw_Q := by
  refine MetFree.of_bodyS (code := code) (maxLocals := maxLocals) (ret := ret) (by decide) ?_ ?_
  · intro args s m h hn
    obtain ⟨meth, c, h1, h2, h3, h4, h5, h6, -, -⟩ := Cond.code_spec hn (atoms_spec (ws := Jvm.Cond.code x code maxLocals ret :: tables_1) h _ List.mem_cons_self)
    exact ⟨meth, c, h1, h2, h3, h4, h5, h6⟩
  · intro p e s m args below meth c s₁ B hml0 hP _
    obtain ⟨rfl, hx, hbd, hgv⟩ := hP
    obtain ⟨scr, harrAt, hlist, hof, hsmall⟩ := hx
    obtain ⟨hcb, hkn, -, -⟩ := State.arrayAt?_spec harrAt
    have hown : s.vm.findClass RL = some m.cls := findClass_of_methodNamed B.named
    have hts0 : ∀ c ∈ (Jvm.Cond.code x code maxLocals ret :: tables_1), c.before #[Value.ref b] s = true := atoms_spec (ws := Jvm.Cond.code x code maxLocals ret :: tables_1) B.pre
    have hts : ∀ w ∈ lw_tbl, w.before #[Value.ref b] s = true := k2_hts_sels lw_privs (fun w hw => hts0 w (List.mem_cons_of_mem _ hw)) lw_privs_ok
    have hml : c.maxLocals = 8 := B.maxLocals_eq (hts0 _ List.mem_cons_self)
    have htab : c.exceptionTable.toList = tableOf [] := by
      obtain ⟨meth9, c9, h1, h2, -, -, -, -, h7, -⟩ := Cond.code_spec B.named (hts0 _ List.mem_cons_self)
      cases Option.some.inj (h1.symm.trans B.method)
      cases Option.some.inj (h2.symm.trans (Stand.of_body B).code)
      rw [Array.isEmpty_iff.mp h7]
      rfl
    have X₀ : Stand p l e room_1 s m #[Value.ref b] below meth c s₁ [] 0 0 := Stand.of_body B
    have hh0 : s₁.heap = s.heap := by rw [B.state]; rfl
    have hsz : scr.slots.size = xs.length := by rw [← Array.length_toList, hlist, List.length_map]
    have hval : ∀ j : Nat, j < xs.length → scr.slots[j]? = some (.int (xs.getD j 0)) := fun j hj => by
      rw [← Array.getElem?_toList, hlist]
      simp [hj]
    have hbl : b < s.heap.size := (Array.getElem?_eq_some_iff.mp hcb).1
    have hX : va_X b xs.length (fun j => xs.getD j 0) s s.heap := ⟨scr, hcb, hof, hkn, hsz, hval⟩
    have K : W p l e room_1 s m #[Value.ref b] below meth c s₁.heap [] 0 0 (lw_Z below #[Value.ref b] s) (entryFrame m ([Value.ref b] : List Value).toArray 8) := by
      rw [hh0]
      exact whole_start l hl hbd ⟨B.exec, B.bytes, B.returns, hml, hown, hts, hX, hbl, B.notSynchronized, hgv, htab, (name_of_methodNamed B.named B.method).1⟩
    obtain ⟨t, a1, o, b1, b2, b3⟩ := K s₁ rfl X₀
    exact ⟨t, o, a1, b1, b2, b3⟩
theorem lw_pre_spec {args : Array Value} {s : State} (h : (Jvm.Cond.and given_1 narrow_1).before args s = true) (hr : rest_1_c.before args s = true) : ∃ (b : Addr) (xs : List Int32), lw_P b xs args s := by
  have hs := flat_of_before _ h
  have hq := flat_of_before _ hr
  have hc : (Cond.count 1).before args s = true := hs _ (by decide +kernel)
  have harr : (Cond.arrayOf (.arg 0) .int).before args s = true := hs _ (by decide +kernel)
  have hle : (Cond.le (.length (.arg 0)) (.int 3072)).before args s = true := hs _ (by decide +kernel)
  have hlen : (Cond.isInt (.length (.arg 0))).before args s = true := hq _ (by decide +kernel)
  have hall : (Cond.all (.arg 0) (.isInt (.elem (.arg 0) (.index 0)))).before args s = true := hq _ (by decide +kernel)
  obtain ⟨b, xs, hb, hx⟩ := State.ints_of_pre rfl harr hlen hall
  have hsm : xs.length < 2 ^ 31 := hx.choose_spec.2.2.2
  have hev : (Term.length (.arg 0)).eval args s none [] s = some (.int xs.length.toInt32) := hx.length_eval hb
  have hv := Cond.le_ints hev (show (Term.int 3072).eval args s none [] s = some (.int 3072) from rfl)
  have hd : xs.length.toInt32 ≤ 3072 := by
    simpa [Cond.before, Cond.holds, hv] using hle
  have hN : xs.length ≤ 3072 := (Int32.ofNat_le_ofNat hsm (by decide)).mp (show Int32.ofNat xs.length ≤ Int32.ofNat 3072 from hd)
  exact ⟨b, xs, Cond.one_arg hc (show args[0]? = some (.ref b) from hb), hx, hN, h⟩
theorem lw_comes (l : Launch) (hl : l.stackTraces = false) : Comes l x (Jvm.Cond.code x code maxLocals ret :: tables_1) room_1 (fun tb e args s => Calls_1 tb e args s ∧ rest_1 tb e args s ∧ Pre_1 tb e args s)
    (fun _ _ args s o t => lw_Q args s o t) := by
  intro p e ha hc hk s m args below hf hfit hheap happ hpre
  obtain ⟨b, xs, hP⟩ := lw_pre_spec hpre.2.2 hpre.2.1
  obtain ⟨k, o, h1, h2, h3, hQ⟩ := lw_walk l hl b xs p e ha hc hk s m args below hf ((Spec.applies_iff_loose hf).mp happ).1 hP trivial
  exact ⟨k, o, h1, h2, h3, hQ⟩
theorem lw_frame {s t : State} {o : Outcome} {args : Array Value} (h : Framed s o t [] 603072 7207018) :
    Framed s o t (fieldLocs frame_1_writes args s ++ arrayLocs frame_1_arrays args s ++ staticLocs frame_1_statics s) 603072 7207018 := h
theorem lw_limb (L : Cond) (hL : ∀ (args : Array Value) (s t : State), L.after args s (.returned (some (.int 1))) t = true) :
    ArmFor flags0 classFile x code maxLocals ret World_1 tables_1 room_1 Calls_1 rest_1 Pre_1
      (fun tb e a s o t => postC L tb e a s o t ∧ Framed s o t (fieldLocs frame_1_writes a s ++ arrayLocs frame_1_arrays a s ++ staticLocs frame_1_statics s) 603072 7207018) := by
  intro l hfl _ _ p e ha hc hk s m args below hf hfit hheap happ hpre
  have hl : l.stackTraces = false := by
    unfold Launch.stackTraces
    rw [hfl]
    decide +kernel
  obtain ⟨k, o, h1, h2, h3, rfl, hF⟩ := lw_comes l hl p e ha hc hk s m args below hf hfit hheap happ hpre
  exact ⟨k, _, h1, h2, h3, hL args s _, lw_frame hF⟩
theorem i_vc : Claimed_1_1 ∧ Claimed_1_2 := ⟨lw_limb limb_1_1 (fun args s t => by simp [limb_1_1, Cond.after, Cond.holds, Cond.value]), lw_limb limb_1_2 (fun args s t => Cond.after_iff.mpr (by
  first | (rw [show limb_1_2 = Cond.eq .result (.int 1) from rfl, Cond.eq_ints (x := 1) (y := 1) rfl rfl]; simp; done) | (simp [limb_1_2, Cond.value, Term.eval]; done)))⟩
