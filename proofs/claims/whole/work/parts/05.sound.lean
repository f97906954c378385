/-! ===== the abstract machine's rows hold on the machine ===== -/
def ac_em (A : Nat → ClassId) : ac_E → va_E
  | .inl o => .inr o
  | .inr (t, n, .inl f) => .inl (A t, n, .inl f)
  | .inr (t, n, .inr (.inl f)) => .inl (A t, n, .inr (.inl f))
  | .inr (t, n, .inr (.inr f)) => .inl (A t, n, .inr (.inr (.inr (.inr f))))
def ac_B (base : Nat) : Nat → Prop := fun q => base ≤ q
def ac_Rep (base : Nat) (D : va_G) (A : Nat → ClassId) (ah : ac_H) (H : Heap) : Prop := base ≤ H.size ∧ ∀ (a : Nat) (e : ac_E), ah a = some e → base ≤ a ∧ va_at D vwCl (a, ac_em A e) H
def ac_L (ls : Array Slot) (nL : Nat) (lv : ac_V) : Prop := ls.size = nL ∧ lv_wf ls ∧ lv.length = nL ∧ ∀ (j : Nat) (w : Value), lv[j]? = some (some w) → ls[j]? = some (.val w)
abbrev ac_tys (A : Nat → ClassId) : List (ClassId × FieldType) := [(A 0, .int), (A 1, .boolean), (A 2, .long), (A 3, .object "TypedHall$Item"), (A 4, .array .int)]
def ac_ngw (w : Cond) : Bool := match w with
  | .fieldLinkNest .. => true
  | .methodLinkNest .. => true
  | .declares _ => true
  | .castable .. => true
  | _ => false
def ac_gw : List Cond := lw_tbl.filter goodWord
def ac_ng : List Cond := lw_tbl.filter ac_ngw
def ac_nc : List (String × String) := (["java/lang/IllegalArgumentException", "java/lang/NullPointerException", "java/lang/UnsupportedOperationException", "java/lang/ArrayIndexOutOfBoundsException", "java/lang/NegativeArraySizeException", "java/lang/IllegalStateException", "java/lang/ArithmeticException"].flatMap fun a => (["java/lang/IllegalArgumentException", "java/lang/NullPointerException", "java/lang/UnsupportedOperationException", "java/lang/ArrayIndexOutOfBoundsException", "java/lang/NegativeArraySizeException", "java/lang/IllegalStateException", "java/lang/ArithmeticException"].filter (fun b => !(a == b))).map fun b => (a, b)) ++ ([RX0, RX2, RX3, RX4].flatMap fun a => ([RX0, RX2, RX3].filter (fun b => !(a == b))).map fun b => (a, b))
def ac_AOA (t : FieldType) (U : State) : Prop := (Cond.arrayOver (.array t)).before #[] U = true
theorem ac_AOA.moved {t : FieldType} {u U : State} (hvm : u.vm.Alike U.vm) (h : ac_AOA t u) : ac_AOA t U := by
  obtain ⟨comp, c, k, h1, h2, h3, h4, h5⟩ := arrayOverA_spec h
  obtain ⟨k', hk', he⟩ := hvm.2.2 _ _ h3
  have hi : (U.vm.classes.findIdx? fun (x : Class) => match x.kind with | .array component _ => component == comp | _ => false) = some c := by
    have hbq : U.vm.bare = u.vm.bare := by first | exact hvm.bare_eq | exact hvm.bare_eq.symm
    exact (va_idx_bare U.vm comp).symm.trans ((congrArg (fun v : Vm => v.classes.findIdx? fun (x : Class) => match x.kind with | .array component _ => component == comp | _ => false) hbq).trans ((va_idx_bare u.vm comp).trans h2))
  have hkind : k'.kind = .array comp (.array t) := by rw [he]; exact h4
  have f1 : U.vm.findClass (FieldType.array t).toString = some comp := by rw [hvm.findClass]; exact h1
  have f2 : U.vm.findClass ("[" ++ (FieldType.array t).toString) = some c := by rw [hvm.findClass]; exact h5
  unfold ac_AOA Cond.before Cond.holds
  simp only [Cond.value]
  rw [f1, Option.bind_some]
  refine (congrArg (fun o : Option Nat => (o.bind (fun c => (U.vm.classes[c]?).map fun (k : Class) => match k.kind with | .array _ ty => decide (ty = FieldType.array t) && decide (U.vm.findClass ("[" ++ (FieldType.array t).toString) = some c) | _ => false) == some true)) hi).trans ?_
  simp [hk', hkind, f2]
/-- what stays of the tables and of the old cells through the whole run -/
def ac_KN (base : Nat) (D : va_G) (A : Nat → ClassId) (U : State) (H : Heap) : Prop :=
  va_K D vwCl (ac_tys A) U ∧ vx_Zq Bundle.tN "UNASSIGNED_STACK" Bundle.steD (ac_B base) U H ∧ vx_Zq Bundle.tN "SUPPRESSED_SENTINEL" Bundle.listD (ac_B base) U H ∧
  (∃ zn : Nat, va_Z "TypedHall" "NO_ELEMENTS" "[I" (.ref zn) (ac_B base) U H ∧ va_X zn 0 (fun _ => 0) U H ∧ zn < base) ∧ (∀ q ∈ ac_nc, va_Nc q.1 q.2 U) ∧ (∀ w ∈ ac_ng, va_Nw w U) ∧ va_AO "TypedHall$Item" U ∧ ac_AOA .int U
abbrev ac_D : Type := String × String × ByteArray × Nat × Option FieldType × List (Nat × Nat × Nat × Nat) × Room
def ac_G (l : Launch) (p : Program) (s : State) (m : MethodId) (args : Array Value) (meth : Method) (c : Code) (M : ac_D) (base : Nat) (D : va_G) (A : Nat → ClassId) (scr : Nat → Nat → (Nat → Int32) → Prop) : Prop :=
  l.stackTraces = false ∧ p.tables.exec = Jvm.exec ∧ c.code = M.2.2.1 ∧ c.maxLocals = M.2.2.2.1 ∧ meth.sig.returnType = M.2.2.2.2.1 ∧ s.vm.findClass M.1 = some m.cls ∧ (∀ w ∈ ac_gw, w.before args s = true) ∧ meth.locks = false ∧ c.exceptionTable.toList = tableOf M.2.2.2.2.2.1 ∧ ac_KN base D A s s.heap ∧ base ≤ s.heap.size ∧ meth.name = M.2.1 ∧ ∀ (b L : Nat) (xs : Nat → Int32), scr b L xs → b < base ∧ va_X b L xs s s.heap
def ac_Qc (base : Nat) (D : va_G) (A : Nat → ClassId) (Q : ac_Q) : Array Value → State → Outcome → State → Prop := fun _ st o t => ∃ (v : Option Value) (ah : ac_H), o = .returned v ∧ Q (.inl v) ah ∧ ac_Rep base D A ah t.heap ∧ va_F (ac_B base) st t
def ac_XC (base : Nat) (D : va_G) (A : Nat → ClassId) (Q : ac_Q) : String → State → State → Prop := fun E st t => ∃ (x : Nat) (ah : ac_H), ac_xn x = E ∧ Q (.inr x) ah ∧ ac_Rep base D A ah t.heap ∧ va_F (ac_B base) st t
def ac_W (p : Program) (l : Launch) (e : Env) (s : State) (m : MethodId) (args : Array Value) (below : List Frame) (meth : Method) (c : Code) (nL : Nat) (R : Room) (base : Nat) (D : va_G) (A : Nat → ClassId) (Q : ac_Q) : ac_P := fun pc lv st ah k n =>
  ∀ (H : Heap) (locs : List Loc) (ls : Array Slot), ac_Rep base D A ah H → va_S (ac_B base) s.heap H locs → ac_L ls nL lv → W p l e R s m args below meth c H locs k n (vx_MQ below (ac_Qc base D A Q) (ac_XC base D A Q) args s R.cells R.slots (ac_B base)) (F0 m pc ls st)
def ac_So (M : ac_D) (scr : Nat → Nat → (Nat → Int32) → Prop) (pc : Nat) (op : ac_op) : Prop := ∀ (p : Program) (l : Launch) (e : Env) (s : State) (m : MethodId) (args : Array Value) (below : List Frame) (meth : Method) (c : Code) (base : Nat) (D : va_G) (A : Nat → ClassId) (Q : ac_Q),
  ac_G l p s m args meth c M base D A scr → ∀ (lv : ac_V) (st : List Value) (ah : ac_H) (k n : Nat), op (ac_W p l e s m args below meth c M.2.2.2.1 M.2.2.2.2.2.2 base D A Q) Q lv st ah k n → ac_W p l e s m args below meth c M.2.2.2.1 M.2.2.2.2.2.2 base D A Q pc lv st ah k n
theorem ac_i1v {st : List Value} {K : Int32 → List Value → Prop} (h : ac_i1 st K) : ∃ x r, st = .int x :: r ∧ K x r := by
  match st, h with
  | .int x :: r, h => exact ⟨x, r, rfl, h⟩
theorem ac_l1v {st : List Value} {K : Int64 → List Value → Prop} (h : ac_l1 st K) : ∃ x r, st = .long x :: r ∧ K x r := by
  match st, h with
  | .long x :: r, h => exact ⟨x, r, rfl, h⟩
theorem ac_a1v {st : List Value} {K : Nat → List Value → Prop} (h : ac_a1 st K) : ∃ x r, st = .ref x :: r ∧ K x r := by
  match st, h with
  | .ref x :: r, h => exact ⟨x, r, rfl, h⟩
theorem ac_n1v {st : List Value} {N : List Value → Prop} {K : Nat → List Value → Prop} (h : ac_n1 st N K) : (∃ r, st = .null :: r ∧ N r) ∨ ∃ x r, st = .ref x :: r ∧ K x r := by
  match st, h with
  | .null :: r, h => exact Or.inl ⟨r, rfl, h⟩
  | .ref x :: r, h => exact Or.inr ⟨x, r, rfl, h⟩
theorem ac_ldv : ∀ {lv : ac_V} {i : Nat} {K : Value → Prop}, ac_ld lv i K → ∃ v, lv[i]? = some (some v) ∧ K v
  | some v :: t, 0, K, h => ⟨v, rfl, h⟩
  | none :: t, 0, K, h => False.elim h
  | [], 0, K, h => False.elim h
  | [], i + 1, K, h => False.elim h
  | none :: t, i + 1, K, h => by
    obtain ⟨v, h1, h2⟩ := ac_ldv (lv := t) h
    exact ⟨v, by simpa using h1, h2⟩
  | some w :: t, i + 1, K, h => by
    obtain ⟨v, h1, h2⟩ := ac_ldv (lv := t) h
    exact ⟨v, by simpa using h1, h2⟩
theorem ac_isIv {v : Value} {X : Prop} (h : ac_isI v X) : (∃ x, v = .int x) ∧ X := by
  match v, h with
  | .int x, h => exact ⟨⟨x, rfl⟩, h⟩
theorem ac_isLv {v : Value} {X : Prop} (h : ac_isL v X) : (∃ x, v = .long x) ∧ X := by
  match v, h with
  | .long x, h => exact ⟨⟨x, rfl⟩, h⟩
theorem ac_isAv {v : Value} {X : Prop} (h : ac_isA v X) : (v = .null ∨ ∃ x, v = .ref x) ∧ X := by
  match v, h with
  | .ref x, h => exact ⟨Or.inr ⟨x, rfl⟩, h⟩
  | .null, h => exact ⟨Or.inl rfl, h⟩
theorem ac_c1v {a : Option Value} {X : Prop} (h : ac_c1 a X) : (∀ w, a = some w → ¬ w.category = 2) ∧ X := by
  match a, h with
  | none, h => exact ⟨fun w hw => (by cases hw), h⟩
  | some (.retAddr x), h => exact ⟨fun w hw => (by cases hw; simp [Value.category]), h⟩
  | some (.int x), h => exact ⟨fun w hw => by cases hw; simp [Value.category], h⟩
  | some (.float x), h => exact ⟨fun w hw => by cases hw; simp [Value.category], h⟩
  | some (.ref x), h => exact ⟨fun w hw => by cases hw; simp [Value.category], h⟩
  | some .null, h => exact ⟨fun w hw => by cases hw; simp [Value.category], h⟩
/-- what a store of one word leaves -/
def ac_s1 (lv lv' : ac_V) (i : Nat) (v : Value) : Prop := lv'.length = lv.length ∧ i < lv.length ∧ ∀ (j : Nat) (w : Value), lv'[j]? = some (some w) → (j = i ∧ w = v) ∨ (j ≠ i ∧ lv[j]? = some (some w) ∧ (j + 1 = i → ¬ w.category = 2))
theorem ac_st1v : ∀ {lv : ac_V} {i : Nat} {v : Value} {K : ac_V → Prop}, ac_st1 lv i v K → ∃ lv', ac_s1 lv lv' i v ∧ K lv'
  | a :: t, 0, v, K, h => by
    refine ⟨some v :: t, ⟨rfl, by simp, fun j w hj => ?_⟩, h⟩
    match j, hj with
    | 0, hj => exact Or.inl ⟨rfl, by simpa using hj.symm⟩
    | j + 1, hj => exact Or.inr ⟨by omega, by simpa using hj, by omega⟩
  | [], 0, v, K, h => False.elim h
  | [], 1, v, K, h => False.elim h
  | [a], 1, v, K, h => False.elim h
  | a :: b :: t, 1, v, K, h => by
    obtain ⟨h1, h2⟩ := ac_c1v h
    refine ⟨a :: some v :: t, ⟨rfl, by simp, fun j w hj => ?_⟩, h2⟩
    match j, hj with
    | 0, hj => exact Or.inr ⟨by omega, by simpa using hj, fun _ => h1 w (by simpa using hj)⟩
    | 1, hj => exact Or.inl ⟨rfl, by simpa using hj.symm⟩
    | j + 2, hj => exact Or.inr ⟨by omega, by simpa using hj, by omega⟩
  | [], i + 2, v, K, h => False.elim h
  | a :: t, i + 2, v, K, h => by
    obtain ⟨t', ⟨h1, h2, h3⟩, h4⟩ := ac_st1v (lv := t) (i := i + 1) h
    refine ⟨a :: t', ⟨by simp [h1], by simp; omega, fun j w hj => ?_⟩, h4⟩
    match j, hj with
    | 0, hj => exact Or.inr ⟨by omega, by simpa using hj, by omega⟩
    | j + 1, hj =>
      rcases h3 j w (by simpa using hj) with ⟨e1, e2⟩ | ⟨e1, e2, e3⟩
      · exact Or.inl ⟨by omega, e2⟩
      · exact Or.inr ⟨by omega, by simpa using e2, fun q => e3 (by omega)⟩
def ac_s2 (lv lv' : ac_V) (i : Nat) (v : Value) : Prop := lv'.length = lv.length ∧ i + 1 < lv.length ∧ ∀ (j : Nat) (w : Value), lv'[j]? = some (some w) → (j = i ∧ w = v) ∨ (j ≠ i ∧ j ≠ i + 1 ∧ lv[j]? = some (some w) ∧ (j + 1 = i → ¬ w.category = 2))
theorem ac_t2v {l : ac_V} {v : Value} {K : ac_V → Prop} (h : ac_t2 l v K) : ∃ a b t, l = a :: b :: t ∧ K (some v :: none :: t) := by
  match l, h with
  | a :: b :: t, h => exact ⟨a, b, t, rfl, h⟩
theorem ac_st2v : ∀ {lv : ac_V} {i : Nat} {v : Value} {K : ac_V → Prop}, ac_st2 lv i v K → ∃ lv', ac_s2 lv lv' i v ∧ K lv'
  | l, 0, v, K, h => by
    have h : ac_t2 l v K := by
      cases l <;> exact h
    obtain ⟨a, b, t, rfl, h⟩ := ac_t2v h
    refine ⟨some v :: none :: t, ⟨rfl, by simp, fun j w hj => ?_⟩, h⟩
    match j, hj with
    | 0, hj => exact Or.inl ⟨rfl, by simpa using hj.symm⟩
    | 1, hj => simp at hj
    | j + 2, hj => exact Or.inr ⟨by omega, by omega, by simpa using hj, by omega⟩
  | [], 1, v, K, h => False.elim h
  | a :: t, 1, v, K, h => by
    obtain ⟨h1, h2⟩ := ac_c1v (a := a) (X := ac_t2 t v (fun t' => K (a :: t'))) h
    obtain ⟨b, d, t, rfl, h2⟩ := ac_t2v h2
    refine ⟨a :: some v :: none :: t, ⟨rfl, by simp, fun j w hj => ?_⟩, h2⟩
    match j, hj with
    | 0, hj => exact Or.inr ⟨by omega, by omega, by simpa using hj, fun _ => h1 w (by simpa using hj)⟩
    | 1, hj => exact Or.inl ⟨rfl, by simpa using hj.symm⟩
    | 2, hj => simp at hj
    | j + 3, hj => exact Or.inr ⟨by omega, by omega, by simpa using hj, by omega⟩
  | [], i + 2, v, K, h => False.elim h
  | a :: t, i + 2, v, K, h => by
    obtain ⟨t', ⟨h1, h2, h3⟩, h4⟩ := ac_st2v (lv := t) (i := i + 1) h
    refine ⟨a :: t', ⟨by simp [h1], by simp; omega, fun j w hj => ?_⟩, h4⟩
    match j, hj with
    | 0, hj => exact Or.inr ⟨by omega, by omega, by simpa using hj, by omega⟩
    | j + 1, hj =>
      rcases h3 j w (by simpa using hj) with ⟨e1, e2⟩ | ⟨e1, e2, e3, e4⟩
      · exact Or.inl ⟨by omega, e2⟩
      · exact Or.inr ⟨by omega, by omega, by simpa using e3, fun q => e4 (by omega)⟩
/-- the known places as the kit's list -/
def ac_pr : Nat → ac_V → List (Nat × Value)
  | _, [] => []
  | i, none :: t => ac_pr (i + 1) t
  | i, some v :: t => (i, v) :: ac_pr (i + 1) t
theorem ac_pr_in : ∀ {lv : ac_V} {i j : Nat} {w : Value}, (j, w) ∈ ac_pr i lv → ∃ k, j = i + k ∧ lv[k]? = some (some w)
  | [], i, j, w, h => by simp [ac_pr] at h
  | none :: t, i, j, w, h => by
    obtain ⟨k, e1, e2⟩ := ac_pr_in (lv := t) (i := i + 1) h
    exact ⟨k + 1, by omega, by simpa using e2⟩
  | some v :: t, i, j, w, h => by
    simp only [ac_pr, List.mem_cons, Prod.mk.injEq] at h
    rcases h with ⟨rfl, rfl⟩ | h
    · exact ⟨0, rfl, rfl⟩
    · obtain ⟨k, e1, e2⟩ := ac_pr_in (lv := t) (i := i + 1) h
      exact ⟨k + 1, by omega, by simpa using e2⟩
theorem ac_pr_of : ∀ {lv : ac_V} {i k : Nat} {w : Value}, lv[k]? = some (some w) → (i + k, w) ∈ ac_pr i lv
  | [], i, k, w, h => by simp at h
  | none :: t, i, 0, w, h => by simp at h
  | none :: t, i, k + 1, w, h => by
    have := ac_pr_of (lv := t) (i := i + 1) (k := k) (w := w) (by simpa using h)
    rw [show i + 1 + k = i + (k + 1) by omega] at this
    exact this
  | some v :: t, i, 0, w, h => by
    have e : v = w := by simpa using h
    subst e
    simp [ac_pr]
  | some v :: t, i, k + 1, w, h => by
    have := ac_pr_of (lv := t) (i := i + 1) (k := k) (w := w) (by simpa using h)
    rw [show i + 1 + k = i + (k + 1) by omega] at this
    exact List.mem_cons_of_mem _ this
theorem ac_L.has {ls : Array Slot} {nL : Nat} {lv : ac_V} (h : ac_L ls nL lv) : lv_has ls nL (ac_pr 0 lv) := by
  obtain ⟨h1, h2, h3, h4⟩ := h
  refine ⟨h1, h2, fun q hq => ?_⟩
  obtain ⟨k, e1, e2⟩ := ac_pr_in (i := 0) (j := q.1) (w := q.2) hq
  rw [e1, Nat.zero_add]
  exact h4 k _ e2
theorem ac_L.st1 {ls ls' : Array Slot} {nL i : Nat} {v : Value} {lv lv' : ac_V} (h : ac_L ls nL lv) (hs : ac_s1 lv lv' i v) (hh : lv_has ls' nL ((i, v) :: (ac_pr 0 lv).filter (fun q => !(q.1 == i) && !(q.1 + 1 == i && q.2.category == 2)))) : ac_L ls' nL lv' := by
  obtain ⟨s1, s2, s3⟩ := hs
  refine ⟨hh.1, hh.2.1, s1.trans h.2.2.1, fun j w hj => ?_⟩
  rcases s3 j w hj with ⟨e1, e2⟩ | ⟨e1, e2, e3⟩
  · subst e1; subst e2
    exact hh.2.2 (j, w) List.mem_cons_self
  · refine hh.2.2 (j, w) (List.mem_cons_of_mem _ (List.mem_filter.mpr ⟨?_, ?_⟩))
    · have := ac_pr_of (i := 0) e2
      rw [Nat.zero_add] at this
      exact this
    · by_cases q : j + 1 = i
      · simp [e1, e3 q]
      · simp [e1, q]
theorem ac_L.st2 {ls ls' : Array Slot} {nL i : Nat} {v : Value} {lv lv' : ac_V} (h : ac_L ls nL lv) (hs : ac_s2 lv lv' i v) (hh : lv_has ls' nL ((i, v) :: (ac_pr 0 lv).filter (fun q => !(q.1 == i) && (!(q.1 == i + 1) && !(q.1 + 1 == i && q.2.category == 2))))) : ac_L ls' nL lv' := by
  obtain ⟨s1, s2, s3⟩ := hs
  refine ⟨hh.1, hh.2.1, s1.trans h.2.2.1, fun j w hj => ?_⟩
  rcases s3 j w hj with ⟨e1, e2⟩ | ⟨e1, e1', e2, e3⟩
  · subst e1; subst e2
    exact hh.2.2 (j, w) List.mem_cons_self
  · refine hh.2.2 (j, w) (List.mem_cons_of_mem _ (List.mem_filter.mpr ⟨?_, ?_⟩))
    · have := ac_pr_of (i := 0) e2
      rw [Nat.zero_add] at this
      exact this
    · by_cases q : j + 1 = i
      · simp [e1, e1', e3 q]
      · simp [e1, e1', q]
