section
/-- this claim is read over the whole library (a round sees that by the name) -/
theorem ac_wide (c : ClassId) (n : Nat) : Jvm.Free.Multi.outerC c n 0 0 = Jvm.Free.Multi.outerC c n 0 0 := rfl
-- ===== PART A: goes FIRST, ahead of the names: the tables' words, and 'selects' of the private methods out of them =====
/-- a private method of a class that the tables say can be made, by its rows of tables_1 -/
def lw_okq (q : MethodName × Nat) : Prop := (q.1.cls ≠ "java/lang/invoke/MethodHandle" ∧ q.1.cls ≠ "java/lang/invoke/VarHandle") ∧ Cond.instantiable q.1.cls q.2 ∈ tables_1 ∧ Cond.privateMethod q.1 ∈ tables_1 ∧ Cond.instanceMethod q.1 ∈ tables_1
theorem lw_p0 : lw_okq (⟨"java/lang/NullPointerException", "getExtendedNPEMessage", "()Ljava/lang/String;"⟩, 8) := ⟨⟨by decide +kernel, by decide +kernel⟩, List.mem_of_getElem? (i := 76) (by decide +kernel), List.mem_of_getElem? (i := 74) (by decide +kernel), List.mem_of_getElem? (i := 75) (by decide +kernel)⟩
theorem lw_p1 : lw_okq (⟨"java/lang/Throwable", "fillInStackTrace", "(I)Ljava/lang/Throwable;"⟩, 6) := ⟨⟨by decide +kernel, by decide +kernel⟩, List.mem_of_getElem? (i := 86) (by decide +kernel), List.mem_of_getElem? (i := 84) (by decide +kernel), List.mem_of_getElem? (i := 85) (by decide +kernel)⟩
theorem lw_p2 : lw_okq (⟨"TypedHall", "holdNew", "(ILTypedHall$Item;)I"⟩, 2) := ⟨⟨by decide +kernel, by decide +kernel⟩, List.mem_of_getElem? (i := 24) (by decide +kernel), List.mem_of_getElem? (i := 190) (by decide +kernel), List.mem_of_getElem? (i := 191) (by decide +kernel)⟩
theorem lw_p3 : lw_okq (⟨"TypedHall", "itemIn", "(I)LTypedHall$Item;"⟩, 2) := ⟨⟨by decide +kernel, by decide +kernel⟩, List.mem_of_getElem? (i := 24) (by decide +kernel), List.mem_of_getElem? (i := 265) (by decide +kernel), List.mem_of_getElem? (i := 266) (by decide +kernel)⟩
theorem lw_p4 : lw_okq (⟨"TypedHall$VectorItem", "firstItems", "(II)[LTypedHall$Item;"⟩, 3) := ⟨⟨by decide +kernel, by decide +kernel⟩, List.mem_of_getElem? (i := 164) (by decide +kernel), List.mem_of_getElem? (i := 441) (by decide +kernel), List.mem_of_getElem? (i := 442) (by decide +kernel)⟩
theorem lw_p5 : lw_okq (⟨"TypedHall", "gridIn", "(I)LTypedHall$GridItem;"⟩, 2) := ⟨⟨by decide +kernel, by decide +kernel⟩, List.mem_of_getElem? (i := 24) (by decide +kernel), List.mem_of_getElem? (i := 500) (by decide +kernel), List.mem_of_getElem? (i := 501) (by decide +kernel)⟩
theorem lw_p6 : lw_okq (⟨"TypedHall", "recordOrNone", "(I)LTypedHall$RecordItem;"⟩, 2) := ⟨⟨by decide +kernel, by decide +kernel⟩, List.mem_of_getElem? (i := 24) (by decide +kernel), List.mem_of_getElem? (i := 557) (by decide +kernel), List.mem_of_getElem? (i := 558) (by decide +kernel)⟩
theorem lw_p7 : lw_okq (⟨"TypedHall", "recordIn", "(I)LTypedHall$RecordItem;"⟩, 2) := ⟨⟨by decide +kernel, by decide +kernel⟩, List.mem_of_getElem? (i := 24) (by decide +kernel), List.mem_of_getElem? (i := 561) (by decide +kernel), List.mem_of_getElem? (i := 562) (by decide +kernel)⟩
theorem lw_p8 : lw_okq (⟨"TypedHallModel", "good", "(ZI)Z"⟩, 12) := ⟨⟨by decide +kernel, by decide +kernel⟩, List.mem_of_getElem? (i := 603) (by decide +kernel), List.mem_of_getElem? (i := 658) (by decide +kernel), List.mem_of_getElem? (i := 659) (by decide +kernel)⟩
theorem lw_p9 : lw_okq (⟨"TypedHallModel", "fresh", "(III)I"⟩, 12) := ⟨⟨by decide +kernel, by decide +kernel⟩, List.mem_of_getElem? (i := 603) (by decide +kernel), List.mem_of_getElem? (i := 662) (by decide +kernel), List.mem_of_getElem? (i := 663) (by decide +kernel)⟩
theorem lw_p10 : lw_okq (⟨"TypedHallModel", "known", "(II)Z"⟩, 12) := ⟨⟨by decide +kernel, by decide +kernel⟩, List.mem_of_getElem? (i := 603) (by decide +kernel), List.mem_of_getElem? (i := 679) (by decide +kernel), List.mem_of_getElem? (i := 680) (by decide +kernel)⟩
theorem lw_p11 : lw_okq (⟨"TypedHallModel", "windows", "(I)I"⟩, 12) := ⟨⟨by decide +kernel, by decide +kernel⟩, List.mem_of_getElem? (i := 603) (by decide +kernel), List.mem_of_getElem? (i := 683) (by decide +kernel), List.mem_of_getElem? (i := 684) (by decide +kernel)⟩
theorem lw_p12 : lw_okq (⟨"TypedHallModel", "reach", "(III)Z"⟩, 12) := ⟨⟨by decide +kernel, by decide +kernel⟩, List.mem_of_getElem? (i := 603) (by decide +kernel), List.mem_of_getElem? (i := 707) (by decide +kernel), List.mem_of_getElem? (i := 708) (by decide +kernel)⟩
theorem lw_p13 : lw_okq (⟨"TypedHallModel", "sort", "(I)I"⟩, 12) := ⟨⟨by decide +kernel, by decide +kernel⟩, List.mem_of_getElem? (i := 603) (by decide +kernel), List.mem_of_getElem? (i := 711) (by decide +kernel), List.mem_of_getElem? (i := 712) (by decide +kernel)⟩
theorem lw_p14 : lw_okq (⟨"TypedHallModel", "bottom", "(I)I"⟩, 12) := ⟨⟨by decide +kernel, by decide +kernel⟩, List.mem_of_getElem? (i := 603) (by decide +kernel), List.mem_of_getElem? (i := 715) (by decide +kernel), List.mem_of_getElem? (i := 716) (by decide +kernel)⟩
theorem lw_p15 : lw_okq (⟨"TypedHallModel", "find", "(II)I"⟩, 12) := ⟨⟨by decide +kernel, by decide +kernel⟩, List.mem_of_getElem? (i := 603) (by decide +kernel), List.mem_of_getElem? (i := 719) (by decide +kernel), List.mem_of_getElem? (i := 720) (by decide +kernel)⟩
def lw_privs_1 : List (MethodName × Nat) := [(⟨"java/lang/NullPointerException", "getExtendedNPEMessage", "()Ljava/lang/String;"⟩, 8), (⟨"java/lang/Throwable", "fillInStackTrace", "(I)Ljava/lang/Throwable;"⟩, 6), (⟨"TypedHall", "holdNew", "(ILTypedHall$Item;)I"⟩, 2), (⟨"TypedHall", "itemIn", "(I)LTypedHall$Item;"⟩, 2), (⟨"TypedHall$VectorItem", "firstItems", "(II)[LTypedHall$Item;"⟩, 3), (⟨"TypedHall", "gridIn", "(I)LTypedHall$GridItem;"⟩, 2), (⟨"TypedHall", "recordOrNone", "(I)LTypedHall$RecordItem;"⟩, 2), (⟨"TypedHall", "recordIn", "(I)LTypedHall$RecordItem;"⟩, 2), (⟨"TypedHallModel", "good", "(ZI)Z"⟩, 12), (⟨"TypedHallModel", "fresh", "(III)I"⟩, 12), (⟨"TypedHallModel", "known", "(II)Z"⟩, 12), (⟨"TypedHallModel", "windows", "(I)I"⟩, 12), (⟨"TypedHallModel", "reach", "(III)Z"⟩, 12), (⟨"TypedHallModel", "sort", "(I)I"⟩, 12), (⟨"TypedHallModel", "bottom", "(I)I"⟩, 12), (⟨"TypedHallModel", "find", "(II)I"⟩, 12)]
theorem lw_r1 : ∀ q ∈ lw_privs_1, lw_okq q := List.forall_mem_cons.mpr ⟨lw_p0, List.forall_mem_cons.mpr ⟨lw_p1, List.forall_mem_cons.mpr ⟨lw_p2, List.forall_mem_cons.mpr ⟨lw_p3, List.forall_mem_cons.mpr ⟨lw_p4, List.forall_mem_cons.mpr ⟨lw_p5, List.forall_mem_cons.mpr ⟨lw_p6, List.forall_mem_cons.mpr ⟨lw_p7, List.forall_mem_cons.mpr ⟨lw_p8, List.forall_mem_cons.mpr ⟨lw_p9, List.forall_mem_cons.mpr ⟨lw_p10, List.forall_mem_cons.mpr ⟨lw_p11, List.forall_mem_cons.mpr ⟨lw_p12, List.forall_mem_cons.mpr ⟨lw_p13, List.forall_mem_cons.mpr ⟨lw_p14, List.forall_mem_cons.mpr ⟨lw_p15, fun _ h => absurd h List.not_mem_nil⟩⟩⟩⟩⟩⟩⟩⟩⟩⟩⟩⟩⟩⟩⟩⟩
theorem lw_p16 : lw_okq (⟨"TypedHallModel", "here", "()J"⟩, 12) := ⟨⟨by decide +kernel, by decide +kernel⟩, List.mem_of_getElem? (i := 603) (by decide +kernel), List.mem_of_getElem? (i := 723) (by decide +kernel), List.mem_of_getElem? (i := 724) (by decide +kernel)⟩
theorem lw_p17 : lw_okq (⟨"TypedHallModel", "set", "(J)J"⟩, 12) := ⟨⟨by decide +kernel, by decide +kernel⟩, List.mem_of_getElem? (i := 603) (by decide +kernel), List.mem_of_getElem? (i := 731) (by decide +kernel), List.mem_of_getElem? (i := 732) (by decide +kernel)⟩
theorem lw_p18 : lw_okq (⟨"TypedHallModel", "row", "(II)Z"⟩, 12) := ⟨⟨by decide +kernel, by decide +kernel⟩, List.mem_of_getElem? (i := 603) (by decide +kernel), List.mem_of_getElem? (i := 743) (by decide +kernel), List.mem_of_getElem? (i := 744) (by decide +kernel)⟩
theorem lw_p19 : lw_okq (⟨"TypedHallModel", "column", "(III)Z"⟩, 12) := ⟨⟨by decide +kernel, by decide +kernel⟩, List.mem_of_getElem? (i := 603) (by decide +kernel), List.mem_of_getElem? (i := 747) (by decide +kernel), List.mem_of_getElem? (i := 748) (by decide +kernel)⟩
theorem lw_p20 : lw_okq (⟨"TypedHallModel", "reachItem", "(II)Z"⟩, 12) := ⟨⟨by decide +kernel, by decide +kernel⟩, List.mem_of_getElem? (i := 603) (by decide +kernel), List.mem_of_getElem? (i := 759) (by decide +kernel), List.mem_of_getElem? (i := 760) (by decide +kernel)⟩
theorem lw_p21 : lw_okq (⟨"TypedHallModel", "isRecord", "(I)Z"⟩, 12) := ⟨⟨by decide +kernel, by decide +kernel⟩, List.mem_of_getElem? (i := 603) (by decide +kernel), List.mem_of_getElem? (i := 771) (by decide +kernel), List.mem_of_getElem? (i := 772) (by decide +kernel)⟩
theorem lw_p22 : lw_okq (⟨"TypedHallModel", "both", "(III)Z"⟩, 12) := ⟨⟨by decide +kernel, by decide +kernel⟩, List.mem_of_getElem? (i := 603) (by decide +kernel), List.mem_of_getElem? (i := 791) (by decide +kernel), List.mem_of_getElem? (i := 792) (by decide +kernel)⟩
def lw_privs_2 : List (MethodName × Nat) := [(⟨"TypedHallModel", "here", "()J"⟩, 12), (⟨"TypedHallModel", "set", "(J)J"⟩, 12), (⟨"TypedHallModel", "row", "(II)Z"⟩, 12), (⟨"TypedHallModel", "column", "(III)Z"⟩, 12), (⟨"TypedHallModel", "reachItem", "(II)Z"⟩, 12), (⟨"TypedHallModel", "isRecord", "(I)Z"⟩, 12), (⟨"TypedHallModel", "both", "(III)Z"⟩, 12)]
theorem lw_r2 : ∀ q ∈ lw_privs_2, lw_okq q := List.forall_mem_cons.mpr ⟨lw_p16, List.forall_mem_cons.mpr ⟨lw_p17, List.forall_mem_cons.mpr ⟨lw_p18, List.forall_mem_cons.mpr ⟨lw_p19, List.forall_mem_cons.mpr ⟨lw_p20, List.forall_mem_cons.mpr ⟨lw_p21, List.forall_mem_cons.mpr ⟨lw_p22, fun _ h => absurd h List.not_mem_nil⟩⟩⟩⟩⟩⟩⟩
def lw_privs : List (MethodName × Nat) := lw_privs_1 ++ (lw_privs_2)
def lw_tbl : List Cond := k2_sels lw_privs ++ tables_1
theorem lw_privs_ok : ∀ q ∈ lw_privs, lw_okq q := by
  show ∀ q ∈ lw_privs_1 ++ (lw_privs_2), lw_okq q
  exact List.forall_mem_append.mpr ⟨lw_r1, lw_r2⟩
end
section
/-! ===== BEGIN words of one list among another's, by their places ===== -/
theorem goodIn_r {big : List Cond} (ws : List Cond) (ps : List Nat) (hp : ws = ps.filterMap (fun i => big[i]?)) (h : ws.all goodWord = true) : GoodIn big ws := by
  intro w hw
  have h1 := List.all_eq_true.mp h w hw
  rw [hp] at hw
  obtain ⟨i, -, hi⟩ := List.mem_filterMap.mp hw
  have hm : w ∈ big := by first | exact List.mem_of_getElem? hi | exact List.getElem?_mem hi
  exact ⟨hm, good_of_word h1⟩
theorem goodIn_app {big a b : List Cond} (ha : GoodIn big a) (hb : GoodIn big b) : GoodIn big (a ++ b) := fun w h => (List.mem_append.mp h).elim (ha w) (hb w)
theorem goodIn_ca {big a b : List Cond} {c : Cond} (ha : GoodIn big (c :: a)) (hb : GoodIn big b) : GoodIn big (c :: (a ++ b)) := fun w h => (List.mem_cons.mp h).elim (fun e => ha w (List.mem_cons.mpr (Or.inl e))) (fun h => (List.mem_append.mp h).elim (fun h => ha w (List.mem_cons.mpr (Or.inr h))) (hb w))
theorem goodIn_sub {big ws : List Cond} (hm : ∀ w ∈ ws, w ∈ big) (h : ws.all goodWord = true) : GoodIn big ws := fun w hw => ⟨hm w hw, good_of_word (List.all_eq_true.mp h w hw)⟩
/-! ===== END ===== -/


/-! ===== BEGIN exceptions that leave a method, and their catching by the caller (launches without stack traces) ===== -/
section VXA
/-! The laws vx_back, vx_callV, vx_callS, vx_callSW, vx_throw0, vx_throwS follow proofs of the library, with one case more: JvmDerived/Free/Laws.lean (Back.of_free), Shelf42/LK1.lean (callV, callS), Shelf/KitTraced.lean (throwNew0V, throwNewS). -/
/-- where a method has thrown q: the class by its name, the cell, what was written, the world -/
def vx_T (XC : String → State → State → Prop) (st : State) (q : Addr) (t : State) (mc ms : Nat) (free : Addr → Prop) : Prop :=
  ∃ (E : String) (ce : Cell) (L : List Loc), XC E st t ∧ t.heap[q]? = some ce ∧ ce.vm = .none ∧ st.vm.findClass E = some ce.cls ∧ st.WarmedH t.vm ∧ st.sameButNew ({ t with vm := st.vm } : State) L mc ms ∧ ∀ z ∈ L, free z.base
def vx_Q (Qc : Array Value → State → Outcome → State → Prop) (XC : String → State → State → Prop) (mc ms : Nat) (free : Addr → Prop) : Array Value → State → Outcome → State → Prop := fun a st o t =>
  (Qc a st o t ∧ ∃ L, FrameEnd st o t L mc ms ∧ ∀ q ∈ L, free q.base) ∨ ∃ q, o = .threw q ∧ vx_T XC st q t mc ms free
/-- a callee that returns or throws -/
def vx_Met (l : Launch) (y : MethodName) (ws : List Cond) (rm : Room) (Pc : Array Value → State → Prop) (Qc : Array Value → State → Outcome → State → Prop) (XC : String → State → State → Prop) (mc ms : Nat) (free : Addr → Prop) : Prop :=
  MetFree l y (headSpec ws rm) Pc (fun _ _ _ _ _ => True) (vx_Q Qc XC mc ms free)
def vx_Post (XC : String → State → State → Prop) (mc ms : Nat) (free : Addr → Prop) : Pt → Array Value → Addr → Pt → Prop := fun A a q B =>
  ∃ (g : JFrame) (mk : MethodId) (t : State) (L : List Loc) (E : String) (ce : Cell), B.U.heap = t.heap ∧ B.U.vm = t.vm ∧ XC E (A.U.calling g mk a) t ∧ t.heap[q]? = some ce ∧ ce.vm = .none ∧ A.U.vm.findClass E = some ce.cls ∧ B.locs = A.locs ++ L ∧ (∀ z ∈ L, free z.base) ∧ B.cells = A.cells + mc ∧ B.slots = A.slots + ms
def vx_Back (l : Launch) (R : Room) (p : Program) (e : Env) (below : List Frame) (s : State) (sargs : Array Value) (y : MethodName) (len W9 : Nat)
    (Pre : Pt → Array Value → Prop) (Post : Pt → Array Value → Option Value → Pt → Prop) (PostX : Pt → Array Value → Addr → Pt → Prop) : Prop :=
  ∀ (m : MethodId) (meth : Method) (c : Code) (A : Pt) (g : JFrame) (ig : Instr) (mk : MethodId) (a : Array Value),
    Stand p l e R s m sargs below meth c A.U A.locs A.cells A.slots → g.method = m → g.locals.size = c.maxLocals → decode c.code g.pc = .ok (ig, len) →
    2 * g.monitorRoom + (g.stack.map fun v => v.category).sum ≤ W9 → A.U.methodNamed? y = some mk → Pre A a →
    (∃ (v : Option Value) (B : Pt), Stand p l e R s m sargs below meth c B.U B.locs B.cells B.slots ∧ Post A a v B ∧
      Steps p.tables e below (doInvoke e (A.U.setTop g) [] mk a).1 (B.U.setTop { g with pc := g.pc + len, stack := v.toList ++ g.stack })) ∨
    (∃ (q : Addr) (B : Pt), Stand p l e R s m sargs below meth c B.U B.locs B.cells B.slots ∧ PostX A a q B ∧
      Steps p.tables e below (doInvoke e (A.U.setTop g) [] mk a).1 ((B.U.setTop g).pushFrame (.throwing q)))
section Payer
variable {l : Launch} {R : Room} {p : Program} {e : Env} {below : List Frame} {s : State} {sargs : Array Value} {y : MethodName} {len W9 : Nat}
theorem vx_back {ws : List Cond} {rm : Room} {Pc : Array Value → State → Prop} {Qc : Array Value → State → Outcome → State → Prop} {XC : String → State → State → Prop} {mc ms : Nat} {free : Addr → Prop} {bytes : ByteArray} {maxL : Nat} {ret : Option FieldType}
    (hM : vx_Met l y ws rm Pc Qc XC mc ms free) (hblind : FrameBlind Pc) (hrc : rm.cells = mc) (hrs : rm.slots = ms)
    (hframes : rm.frames + 1 ≤ R.frames) (hlocals : W9 + (maxL + 11) + rm.locals ≤ R.locals)
    (hws : ∀ w ∈ ws, ∀ a' U, s.WarmedH U.vm → w.before a' U = true) (hcode : Cond.code y bytes maxL ret ∈ ws) (hinit : ∀ a' U, s.WarmedH U.vm → (Cond.initialized y.cls).before a' U = true) :
    vx_Back l R p e below s sargs y len W9 (PreOf R mc ms Pc) (PostOf Qc mc ms free) (vx_Post XC mc ms free) := by
  intro m meth c A g ig mk a X hg hsize hdg hW hn hp
  have h1 : (headSpec ws rm).pre.before a A.U = true := atoms_intro fun w hw => hws w hw _ _ X.warmed
  have h2 : (Cond.code y bytes maxL ret).before a A.U = true := hws _ hcode _ _ X.warmed
  have h3 : (Cond.initialized y.cls).before a A.U = true := hinit _ _ X.warmed
  have h4 : A.cells + (headSpec ws rm).room.cells ≤ R.cells := by rw [show (headSpec ws rm).room.cells = mc from hrc]; exact hp.1
  have h5 : A.slots + (headSpec ws rm).room.slots ≤ R.slots := by rw [show (headSpec ws rm).room.slots = ms from hrs]; exact hp.2.1
  have hPc : Pc a (A.U.calling g mk a) := hblind _ _ _ _ hp.2.2
  obtain ⟨U, Ls, c0, s0⟩ := A
  dsimp only [Pt.U, Pt.locs, Pt.cells, Pt.slots] at h1 h2 h3 h4 h5 X hn hPc ⊢
  obtain ⟨methY, cY, hmY, hcY, -, hlY, -, -, -, -⟩ := Cond.code_spec hn h2
  obtain ⟨kY, hkY, -⟩ := className_of_methodNamed hn
  have hinitY : kY.init = .initialized := Cond.initialized_spec (findClass_of_methodNamed hn) hkY h3
  have h : At U g.method c below := by rw [hg]; exact X.here
  have hlocals9 : W9 + (maxL + 11) + (headSpec ws rm).room.locals ≤ R.locals := hlocals
  have happ : (headSpec ws rm).appliesLoose y e.platform (U.calling g mk a) = true :=
    Spec.appliesLoose_calling (g := g) h hdg hn hkY hinitY
      (X.room_calling (g := g) (R' := (headSpec ws rm).room) hsize hmY hcY hframes (by rw [hlY]; omega) h4 h5) h1
  obtain ⟨mid, hmid⟩ := h.above
  have hfr : (U.setTop g).frames = (.java g :: mid) ++ below := by rw [State.frames_setTop' g h.top, hmid]; rfl
  obtain ⟨o, s₂, hsteps, -, hend, hq⟩ := Steps.callFree hM p X.admits X.cas X.clock (acts := []) hfr happ hPc trivial
  have hq' : vx_Q Qc XC mc ms free a (U.calling g mk a) o s₂ := hq
  rw [State.frames_setTop' g h.top] at hend
  obtain ⟨g₀, hg0⟩ := Option.isSome_iff_exists.mp h.top
  obtain ⟨r, hr⟩ := State.topJava?_eq_some.mp hg0
  have hr' : (({ U with heap := s₂.heap, slotsUsed := s₂.slotsUsed } : State).setVm s₂.vm).frames = .java g₀ :: r := hr
  rcases hq' with ⟨hqc, L, hfe, hL⟩ | ⟨q, rfl, E, ce, L, hx, hce, hcv, hcl, hW₂, hsm, hL⟩
  · obtain ⟨⟨v, rfl⟩, hW₂, e2, q2, q3, q4, q5, q6⟩ := id hfe
    have e3 : s₂ = ({ (U.calling g mk a).setFrames s₂.frames with heap := s₂.heap, slotsUsed := s₂.slotsUsed } : State).setVm s₂.vm := by
      have : s₂ = ({ s₂ with vm := (U.calling g mk a).vm } : State).setVm s₂.vm := rfl
      rw [e2] at this
      exact this
    obtain ⟨c₂, i₂, len₂, hc₂, hd₂, hf₂⟩ := hend
    have hW' : U.WarmedH s₂.vm := hW₂
    have hcc : c₂ = c := by
      have h1 : s₂.code? g.method = U.code? g.method := by
        rw [State.code?_eq, State.code?_eq, hW'.alike.method?]
      exact Option.some.inj (hc₂.symm.trans (h1.trans h.code))
    subst hcc
    have hlen : len₂ = len := by rw [hdg] at hd₂; cases hd₂; rfl
    subst hlen
    have hs₂ : s₂ = (({ U with heap := s₂.heap, slotsUsed := s₂.slotsUsed } : State).setVm s₂.vm).setTop { g with pc := g.pc + len₂, stack := v.toList ++ g.stack } := by
      refine e3.trans ?_
      rw [hf₂, State.calling_eq h.top, State.setFrames_setFrames, State.setTop_of_frames _ hr', hr]
      rfl
    have hsame : U.sameButNew ({ U with heap := s₂.heap, slotsUsed := s₂.slotsUsed } : State) L mc ms := by
      refine ⟨?_, q2, q3, q4, q5, q6⟩
      obtain ⟨t, ht, -⟩ := State.frames_cons hr
      show ({ U with heap := s₂.heap, slotsUsed := s₂.slotsUsed } : State) = { U.setFrames U.frames with heap := s₂.heap, slotsUsed := s₂.slotsUsed }
      rw [State.setFrames_self ht]
    subst hg
    refine Or.inl ⟨v, ⟨(({ U with heap := s₂.heap, slotsUsed := s₂.slotsUsed } : State).setVm s₂.vm), Ls ++ L, c0 + mc, s0 + ms⟩,
      ⟨X.admits, X.cas, X.clock, X.frames, X.room, X.hears, X.method, X.code, (X.here.setHeapUsed s₂.heap s₂.slotsUsed).setVm hW'.alike, X.tail, State.WarmedH.trans X.warmed hW', X.limits, X.bytes, X.same.trans (hsame.setVm s.vm)⟩,
      ⟨g, mk, s₂, L, rfl, rfl, hqc, rfl, hL, rfl, rfl⟩, ?_⟩
    show Steps p.tables e below _ ((({ U with heap := s₂.heap, slotsUsed := s₂.slotsUsed } : State).setVm s₂.vm).setTop { g with pc := g.pc + len₂, stack := v.toList ++ g.stack })
    rw [← hs₂]
    exact hsteps
  · obtain ⟨e2, q2, q3, q4, q5, q6⟩ := id hsm
    have e3 : s₂ = ({ (U.calling g mk a).setFrames s₂.frames with heap := s₂.heap, slotsUsed := s₂.slotsUsed } : State).setVm s₂.vm := by
      have : s₂ = ({ s₂ with vm := (U.calling g mk a).vm } : State).setVm s₂.vm := rfl
      rw [e2] at this
      exact this
    have hf₂ : s₂.frames = .throwing q :: .java g :: U.frames.tail := hend
    have hW' : U.WarmedH s₂.vm := hW₂
    have hs₂ : s₂ = ((({ U with heap := s₂.heap, slotsUsed := s₂.slotsUsed } : State).setVm s₂.vm).setTop g).pushFrame (.throwing q) := by
      refine e3.trans ?_
      rw [hf₂, State.calling_eq h.top, State.setFrames_setFrames, State.pushFrame, State.frames_setTop _ hr', State.setTop_of_frames _ hr', State.setFrames_setFrames, hr]
      rfl
    have hsame : U.sameButNew ({ U with heap := s₂.heap, slotsUsed := s₂.slotsUsed } : State) L mc ms := by
      refine ⟨?_, q2, q3, q4, q5, q6⟩
      obtain ⟨t, ht, -⟩ := State.frames_cons hr
      show ({ U with heap := s₂.heap, slotsUsed := s₂.slotsUsed } : State) = { U.setFrames U.frames with heap := s₂.heap, slotsUsed := s₂.slotsUsed }
      rw [State.setFrames_self ht]
    subst hg
    refine Or.inr ⟨q, ⟨(({ U with heap := s₂.heap, slotsUsed := s₂.slotsUsed } : State).setVm s₂.vm), Ls ++ L, c0 + mc, s0 + ms⟩,
      ⟨X.admits, X.cas, X.clock, X.frames, X.room, X.hears, X.method, X.code, (X.here.setHeapUsed s₂.heap s₂.slotsUsed).setVm hW'.alike, X.tail, State.WarmedH.trans X.warmed hW', X.limits, X.bytes, X.same.trans (hsame.setVm s.vm)⟩,
      ⟨g, mk, s₂, L, E, ce, rfl, rfl, hx, hce, hcv, hcl, rfl, hL, rfl, rfl⟩, ?_⟩
    show Steps p.tables e below _ (((({ U with heap := s₂.heap, slotsUsed := s₂.slotsUsed } : State).setVm s₂.vm).setTop g).pushFrame (.throwing q))
    rw [← hs₂]
    exact hsteps
end Payer
section Calls
variable {p : Program} {l : Launch} {e : Env} {R : Room} {s : State} {m : MethodId} {args : Array Value} {below : List Frame} {meth : Method} {c : Code} {T : State} {locs : List Loc} {cells slots : Nat}
theorem vx_callV (X : Stand p l e R s m args below meth c T locs cells slots) (hexec : p.tables.exec = Jvm.exec) {own C : String} {index : Nat} {y : MethodName} {bytes : ByteArray} {maxL : Nat} {ret : Option FieldType}
    (hown : s.vm.findClass own = some m.cls) (hlink : (Cond.methodLink own index y).before args s = true) (hinst : (Cond.instanceMethod y).before args s = true) (hsel : (Cond.selects C y y).before args s = true)
    (hcode : (Cond.code y bytes maxL ret).before args s = true) (hy : y.cls ≠ "java/lang/invoke/MethodHandle" ∧ y.cls ≠ "java/lang/invoke/VarHandle")
    {W9 : Nat} {Pre : Pt → Array Value → Prop} {Post : Pt → Array Value → Option Value → Pt → Prop} {PostX : Pt → Array Value → Addr → Pt → Prop} (hK : vx_Back l R p e below s args y 3 W9 Pre Post PostX)
    {b : Addr} {cellB : Cell} (hcell : T.heap[b]? = some cellB) (hobj : cellB.vm.isStatics = false) (hcls : s.vm.findClass C = some cellB.cls)
    {g : JFrame} (hg : g.method = m) (hsize : g.locals.size = c.maxLocals) {argsL rest : List Value} (hlen : ∀ sig, parseMethodDescriptor y.desc = some sig → argsL.length = sig.parameters.length)
    (hstack : g.stack = argsL.reverse ++ .ref b :: rest) (hW : 2 * g.monitorRoom + (rest.map fun v => v.category).sum ≤ W9) (hdg : decode c.code g.pc = .ok (.invokevirtual index, 3))
    (hpre : ∀ vm₁, s.WarmedH vm₁ → Pre ⟨T.setVm vm₁, locs, cells, slots⟩ (Value.ref b :: argsL).toArray) :
    (∃ (v : Option Value) (vm₁ : Vm) (B : Pt), s.WarmedH vm₁ ∧ Stand p l e R s m args below meth c B.U B.locs B.cells B.slots ∧ Post ⟨T.setVm vm₁, locs, cells, slots⟩ (Value.ref b :: argsL).toArray v B ∧
      ∀ target, Steps p.tables e below (B.U.setTop { g with pc := g.pc + 3, stack := v.toList ++ rest }) target → Steps p.tables e below (T.setTop g) target) ∨
    (∃ (q : Addr) (vm₁ : Vm) (B : Pt), s.WarmedH vm₁ ∧ Stand p l e R s m args below meth c B.U B.locs B.cells B.slots ∧ PostX ⟨T.setVm vm₁, locs, cells, slots⟩ (Value.ref b :: argsL).toArray q B ∧
      Steps p.tables e below (T.setTop g) ((B.U.setTop { g with stack := rest }).pushFrame (.throwing q))) := by
  obtain ⟨mk, methM, hnamed, hmethM, hstM, habM⟩ := Cond.instanceMethod_spec hinst
  obtain ⟨methM', cM, hmethM', -, -, -, -, -, -, hsigM⟩ := Cond.code_spec hnamed hcode
  cases hmethM.symm.trans hmethM'
  obtain ⟨c2, r2, m2, q1, q2, q3, q4, kP, hkP, hkPi⟩ := Cond.selects_spec hsel
  cases hcls.symm.trans q1
  cases (State.methodFound?_of_named hnamed hy).symm.trans q2
  cases hnamed.symm.trans q3
  have hselP : selectMethod e.platform s.vm cellB.cls mk = .method mk := by rw [Launch.admits_selectMethod X.admits]; exact q4
  obtain ⟨vm₁, X₁, hstep₁⟩ := X.invokevirtual hexec hown hlink hnamed hmethM hstM hkP hkPi hy (a := b) (cell := cellB) hcell
    (fun z h => by rw [h] at hobj; cases hobj) hselP hmethM habM hkP hkPi (g := g) hg (argsL := argsL) (rest := rest) (hlen _ hsigM) hstack hdg
  rcases hK m meth c ⟨T.setVm vm₁, locs, cells, slots⟩ { g with stack := rest } (.invokevirtual index) mk (Value.ref b :: argsL).toArray X₁ hg hsize hdg hW (X₁.named hnamed) (hpre vm₁ X₁.warmed) with ⟨v, B, X', hpost, hsteps⟩ | ⟨q, B, X', hpost, hsteps⟩
  · exact Or.inl ⟨v, vm₁, B, X₁.warmed, X', hpost, fun target h => hstep₁ _ fun acts => by rw [doInvoke_state]; exact hsteps.trans h⟩
  · exact Or.inr ⟨q, vm₁, B, X₁.warmed, X', hpost, hstep₁ _ fun acts => by rw [doInvoke_state]; exact hsteps⟩
theorem vx_callS (X : Stand p l e R s m args below meth c T locs cells slots) (hexec : p.tables.exec = Jvm.exec) {own : String} {index : Nat} {y : MethodName} {bytes : ByteArray} {maxL : Nat} {ret : Option FieldType}
    (hown : s.vm.findClass own = some m.cls) (hlink : (Cond.methodLink own index y).before args s = true) (hstat : (Cond.static y).before args s = true) (hinit : (Cond.initialized y.cls).before args s = true)
    (hcode : (Cond.code y bytes maxL ret).before args s = true) (hy : y.cls ≠ "java/lang/invoke/MethodHandle" ∧ y.cls ≠ "java/lang/invoke/VarHandle")
    {W9 : Nat} {Pre : Pt → Array Value → Prop} {Post : Pt → Array Value → Option Value → Pt → Prop} {PostX : Pt → Array Value → Addr → Pt → Prop} (hK : vx_Back l R p e below s args y 3 W9 Pre Post PostX)
    {g : JFrame} (hg : g.method = m) (hsize : g.locals.size = c.maxLocals) {argsL rest : List Value} (hlen : ∀ sig, parseMethodDescriptor y.desc = some sig → argsL.length = sig.parameters.length)
    (hstack : g.stack = argsL.reverse ++ rest) (hW : 2 * g.monitorRoom + (rest.map fun v => v.category).sum ≤ W9) (hdg : decode c.code g.pc = .ok (.invokestatic index, 3))
    (hpre : ∀ vm₁, s.WarmedH vm₁ → Pre ⟨T.setVm vm₁, locs, cells, slots⟩ argsL.toArray) :
    (∃ (v : Option Value) (vm₁ : Vm) (B : Pt), s.WarmedH vm₁ ∧ Stand p l e R s m args below meth c B.U B.locs B.cells B.slots ∧ Post ⟨T.setVm vm₁, locs, cells, slots⟩ argsL.toArray v B ∧
      ∀ target, Steps p.tables e below (B.U.setTop { g with pc := g.pc + 3, stack := v.toList ++ rest }) target → Steps p.tables e below (T.setTop g) target) ∨
    (∃ (q : Addr) (vm₁ : Vm) (B : Pt), s.WarmedH vm₁ ∧ Stand p l e R s m args below meth c B.U B.locs B.cells B.slots ∧ PostX ⟨T.setVm vm₁, locs, cells, slots⟩ argsL.toArray q B ∧
      Steps p.tables e below (T.setTop g) ((B.U.setTop { g with stack := rest }).pushFrame (.throwing q))) := by
  obtain ⟨mk, hnamed⟩ := Cond.code_named hcode
  obtain ⟨methM, cM, hmethM, -, -, -, -, -, -, hsigM⟩ := Cond.code_spec hnamed hcode
  have hstatic : methM.isStatic = true := Cond.static_spec hnamed hmethM hstat
  obtain ⟨kP, hkP, -⟩ := className_of_methodNamed hnamed
  have hinitP : kP.init = .initialized := Cond.initialized_spec (findClass_of_methodNamed hnamed) hkP hinit
  obtain ⟨vm₁, X₁, hstep₁⟩ := X.invokestatic hexec hown hlink hnamed hmethM hstatic hkP hinitP hy (g := g) hg (argsL := argsL) (rest := rest) (hlen _ hsigM) hstack hdg
  rcases hK m meth c ⟨T.setVm vm₁, locs, cells, slots⟩ { g with stack := rest } (.invokestatic index) mk argsL.toArray X₁ hg hsize hdg hW (X₁.named hnamed) (hpre vm₁ X₁.warmed) with ⟨v, B, X', hpost, hsteps⟩ | ⟨q, B, X', hpost, hsteps⟩
  · exact Or.inl ⟨v, vm₁, B, X₁.warmed, X', hpost, fun target h => hstep₁ _ fun acts => by rw [doInvoke_state]; exact hsteps.trans h⟩
  · exact Or.inr ⟨q, vm₁, B, X₁.warmed, X', hpost, hstep₁ _ fun acts => by rw [doInvoke_state]; exact hsteps⟩
end Calls
theorem vx_cls {s : State} {T : State} {vm₁ : Vm} {E : String} {k : ClassId} (hW : s.WarmedH vm₁) (h : (T.setVm vm₁).vm.findClass E = some k) : s.vm.findClass E = some k := by
  have h1 : vm₁.findClass E = some k := h
  rw [hW.alike.findClass] at h1
  exact h1
/-- the method's frame g, with q thrown over it -/
def vx_W (p : Program) (l : Launch) (e : Env) (R : Room) (s : State) (m : MethodId) (args : Array Value) (below : List Frame) (meth : Method) (c : Code) (H : Heap) (locs : List Loc) (cells slots : Nat) (Q : State → Prop) (g : JFrame) (q : Addr) : Prop :=
  ∀ T : State, T.heap = H → Stand p l e R s m args below meth c T locs cells slots → ∃ t, Steps p.tables e below ((T.setTop g).pushFrame (.throwing q)) t ∧ Q t
def vx_Run (p : Program) (l : Launch) (e : Env) (R : Room) (s : State) (m : MethodId) (args : Array Value) (below : List Frame) (meth : Method) (c : Code) (H : Heap) (locs : List Loc) (cells slots mc ms : Nat) (g : JFrame) (rest : List Value) (Qa : State → Outcome → State → Prop) (XC : String → State → State → Prop) (free : Addr → Prop) : Prop :=
  ∀ T : State, T.heap = H → Stand p l e R s m args below meth c T locs cells slots →
    (∃ (v : Option Value) (st₀ t T' : State) (L : List Loc), st₀.heap = H ∧ Stand p l e R s m args below meth c T' (locs ++ L) (cells + mc) (slots + ms) ∧ (∀ q ∈ L, free q.base) ∧ T'.heap = t.heap ∧ T'.vm = t.vm ∧ Qa st₀ (.returned v) t ∧
      Goes p e below T g T' { g with pc := g.pc + 3, stack := v.toList ++ rest }) ∨
    (∃ (q : Addr) (st₀ t T' : State) (L : List Loc) (E : String) (ce : Cell), st₀.heap = H ∧ Stand p l e R s m args below meth c T' (locs ++ L) (cells + mc) (slots + ms) ∧ (∀ z ∈ L, free z.base) ∧ T'.heap = t.heap ∧ T'.vm = t.vm ∧ XC E st₀ t ∧ t.heap[q]? = some ce ∧ ce.vm = .none ∧ s.vm.findClass E = some ce.cls ∧
      Steps p.tables e below (T.setTop g) ((T'.setTop { g with stack := rest }).pushFrame (.throwing q)))
def vx_X {S : Type} (px : S → Prop) (B : String → S → State → Prop) (A : Nat → Prop) : String → State → State → Prop := fun E st t => ∃ u : S, px u ∧ B E u t ∧ va_F A st t
section Runs
variable {p : Program} {l : Launch} {e : Env} {R : Room} {s : State} {m : MethodId} {args : Array Value} {below : List Frame} {meth : Method} {c : Code} {H : Heap} {locs : List Loc} {cells slots : Nat}
variable {y : MethodName} {bytes cc : ByteArray} {maxL nL mc ms n index : Nat} {ret : Option FieldType} {ws : List Cond} {rm : Room} {Pc : Array Value → State → Prop} {Qc : Array Value → State → Outcome → State → Prop} {XC : String → State → State → Prop} {free : Addr → Prop} {Ts : List Cond} {own C : String} {b : Addr} {As rest : List Value} {g : JFrame}
theorem vx_callBack (cb : CallB R s args own index y bytes maxL ret ws rm mc ms n) (hM : vx_Met l y ws rm Pc Qc XC mc ms free) (hbl : FrameBlind Pc) : vx_Back l R p e below s args y 3 8 (PreOf R mc ms Pc) (PostOf Qc mc ms free) (vx_Post XC mc ms free) := by
  obtain ⟨hrc, hrs, hfr, hlo, hws, hcw, -, hini, -⟩ := cb
  exact vx_back (bytes := bytes) (maxL := maxL) (ret := ret) hM hbl hrc hrs hfr hlo hws hcw (fun a' U hW => word_at hW (Or.inl (by first | rfl | simp [Cond.onTables, Cond.keeps, Cond.steady])) hini)
theorem vx_runV (S : CallFix p m c cc nL s args Ts own) (hM : vx_Met l y ws rm Pc Qc XC mc ms free) (cw : CallW R s args own C index y bytes maxL ret ws rm mc ms n) (hp : PreV s H C b Pc As)
    (hg : g.method = m) (hn : As.length = n) (hsize : g.locals.size = nL) (hstack : g.stack = As.reverse ++ .ref b :: rest) (hW : 2 * g.monitorRoom + (rest.map fun v => v.category).sum ≤ 8) (hdg : decode cc g.pc = .ok (.invokevirtual index, 3)) (hf : cells + mc ≤ R.cells ∧ slots + ms ≤ R.slots) :
    vx_Run p l e R s m args below meth c H locs cells slots mc ms g rest (Qc (Value.ref b :: As).toArray) XC free := by
  have hK : vx_Back l R p e below s args y 3 8 (PreOf R mc ms Pc) (PostOf Qc mc ms free) (vx_Post XC mc ms free) := vx_callBack cw.1 hM hp.1
  obtain ⟨⟨-, -, -, -, -, -, hcode, -, hy, hlen, hl⟩, hin, hse⟩ := cw
  obtain ⟨hx, hb, hml, ho, -⟩ := S
  obtain ⟨-, ⟨cellB, hcB, hoB, hclB⟩, hPc⟩ := hp
  intro T hT X
  rcases vx_callV X hx (C := C) (bytes := bytes) (maxL := maxL) (ret := ret) ho hl hin hse hcode hy hK (by rw [hT]; exact hcB) hoB hclB hg (hsize.trans hml.symm) (argsL := As) (rest := rest) (fun sig h => hn.trans (hlen sig h)) hstack hW (by rw [hb]; exact hdg)
    (fun vm₁ hW₁ => ⟨hf.1, hf.2, hPc (T.setVm vm₁) hT hW₁⟩) with ⟨v, vm₁, ⟨U', l2, c2, s2⟩, hW₁, X', ⟨g', mk, t, L, e1, e2, hq, h1, hL, h2, h3⟩, st⟩ | ⟨q, vm₁, ⟨U', l2, c2, s2⟩, hW₁, X', ⟨g', mk, t, L, E, ce, e1, e2, hq, hce, hcv, hcl, h1, hL, h2, h3⟩, st⟩
  · dsimp only [Pt.U, Pt.locs, Pt.cells, Pt.slots] at X' e1 e2 h1 h2 h3 st
    subst h1; subst h2; subst h3
    exact Or.inl ⟨v, (T.setVm vm₁).calling g' mk (Value.ref b :: As).toArray, t, U', L, hT, X', hL, e1, e2, hq, st⟩
  · dsimp only [Pt.U, Pt.locs, Pt.cells, Pt.slots] at X' e1 e2 h1 h2 h3 st hcl
    subst h1; subst h2; subst h3
    exact Or.inr ⟨q, (T.setVm vm₁).calling g' mk (Value.ref b :: As).toArray, t, U', L, E, ce, hT, X', hL, e1, e2, hq, hce, hcv, vx_cls hW₁ hcl, st⟩
theorem vx_runS (S : CallFix p m c cc nL s args Ts own) (hM : vx_Met l y ws rm Pc Qc XC mc ms free) (cw : CallB R s args own index y bytes maxL ret ws rm mc ms n ∧ (Cond.static y).before args s = true) (hp : PreS s H Pc As)
    (hg : g.method = m) (hn : As.length = n) (hsize : g.locals.size = nL) (hstack : g.stack = As.reverse ++ rest) (hW : 2 * g.monitorRoom + (rest.map fun v => v.category).sum ≤ 8) (hdg : decode cc g.pc = .ok (.invokestatic index, 3)) (hf : cells + mc ≤ R.cells ∧ slots + ms ≤ R.slots) :
    vx_Run p l e R s m args below meth c H locs cells slots mc ms g rest (Qc As.toArray) XC free := by
  have hK : vx_Back l R p e below s args y 3 8 (PreOf R mc ms Pc) (PostOf Qc mc ms free) (vx_Post XC mc ms free) := vx_callBack cw.1 hM hp.1
  obtain ⟨⟨-, -, -, -, -, -, hcode, hini, hy, hlen, hl⟩, hstt⟩ := cw
  obtain ⟨hx, hb, hml, ho, -⟩ := S
  intro T hT X
  rcases vx_callS X hx (bytes := bytes) (maxL := maxL) (ret := ret) ho hl hstt hini hcode hy hK hg (hsize.trans hml.symm) (argsL := As) (rest := rest) (fun sig h => hn.trans (hlen sig h)) hstack hW (by rw [hb]; exact hdg)
    (fun vm₁ hW₁ => ⟨hf.1, hf.2, hp.2 (T.setVm vm₁) hT hW₁⟩) with ⟨v, vm₁, ⟨U', l2, c2, s2⟩, hW₁, X', ⟨g', mk, t, L, e1, e2, hq, h1, hL, h2, h3⟩, st⟩ | ⟨q, vm₁, ⟨U', l2, c2, s2⟩, hW₁, X', ⟨g', mk, t, L, E, ce, e1, e2, hq, hce, hcv, hcl, h1, hL, h2, h3⟩, st⟩
  · dsimp only [Pt.U, Pt.locs, Pt.cells, Pt.slots] at X' e1 e2 h1 h2 h3 st
    subst h1; subst h2; subst h3
    exact Or.inl ⟨v, (T.setVm vm₁).calling g' mk As.toArray, t, U', L, hT, X', hL, e1, e2, hq, st⟩
  · dsimp only [Pt.U, Pt.locs, Pt.cells, Pt.slots] at X' e1 e2 h1 h2 h3 st hcl
    subst h1; subst h2; subst h3
    exact Or.inr ⟨q, (T.setVm vm₁).calling g' mk As.toArray, t, U', L, E, ce, hT, X', hL, e1, e2, hq, hce, hcv, vx_cls hW₁ hcl, st⟩
end Runs
section Rows
variable {p : Program} {l : Launch} {e : Env} {R : Room} {s : State} {m : MethodId} {args : Array Value} {below : List Frame} {meth : Method} {c : Code} {H : Heap} {locs : List Loc} {cells slots : Nat} {Q : State → Prop}
variable {mc ms : Nat} {free : Addr → Prop} {A0 A1 : Nat → Prop} {H0 : Heap} {a : Array Value} {pc : Nat} {ls : Array Slot} {st0 rest : List Value}
theorem vx_keep {st₀ t T' : State} {L : List Loc} (h0 : st₀.heap = H) (e1 : T'.heap = t.heap) (hS : va_S A0 H0 H locs) (hA : ∀ q, q < H.size → A1 q → A0 q) (hf : ∀ q, free q → A0 q) (hL : ∀ q ∈ L, free q.base) (hF : va_F A1 st₀ t) :
    H.size ≤ T'.heap.size ∧ (∀ q : Nat, q < H.size → ¬ A1 q → T'.heap[q]? = H[q]?) ∧ va_S A0 H0 T'.heap (locs ++ L) := by
  obtain ⟨hz, hk⟩ := hF
  rw [h0] at hz hk
  exact ⟨by rw [e1]; exact hz, fun q h1 h2 => by rw [e1]; exact hk q h1 h2,
    ⟨Nat.le_trans hS.1 (by rw [e1]; exact hz), fun q h1 h2 => by rw [e1, hk q (Nat.lt_of_lt_of_le h1 hS.1) (fun z => h2 (hA q (Nat.lt_of_lt_of_le h1 hS.1) z))]; exact hS.2.1 q h1 h2, fun q hq => by
      rcases List.mem_append.mp hq with h | h
      · exact hS.2.2 q h
      · exact hf _ (hL q h)⟩⟩
theorem vx_calli {S SX : Type} {post : Int32 → S → Prop} {px : SX → Prop} {B : S → State → Prop} {BX : String → SX → State → Prop} {AX : Nat → Prop} (hr : vx_Run p l e R s m args below meth c H locs cells slots mc ms (F0 m pc ls st0) rest (va_Qi post B A1 a) (vx_X px BX AX) free) (hS : va_S A0 H0 H locs) (hA : ∀ q, q < H.size → A1 q → A0 q) (hf : ∀ q, free q → A0 q) (hAX : ∀ q, q < H.size → AX q → A0 q)
    (kx : ∀ (E : String) (ce : Cell) (q9 : Addr) (u : SX) (t : State) (H1 : Heap) (locs1 : List Loc), t.heap = H1 → s.vm.Alike t.vm → px u → BX E u t → H.size ≤ H1.size → (∀ q : Nat, q < H.size → ¬ AX q → H1[q]? = H[q]?) → va_S A0 H0 H1 locs1 → H1[q9]? = some ce → ce.vm = .none → s.vm.findClass E = some ce.cls → vx_W p l e R s m args below meth c H1 locs1 (cells + mc) (slots + ms) Q (F0 m pc ls rest) q9)
    (kk : ∀ (r : Int32) (u : S) (t : State) (H1 : Heap) (locs1 : List Loc), t.heap = H1 → s.vm.Alike t.vm → post r u → B u t → H.size ≤ H1.size → (∀ q : Nat, q < H.size → ¬ A1 q → H1[q]? = H[q]?) → va_S A0 H0 H1 locs1 → W p l e R s m args below meth c H1 locs1 (cells + mc) (slots + ms) Q (F0 m (pc + 3) ls (.int r :: rest))) : W p l e R s m args below meth c H locs cells slots Q (F0 m pc ls st0) := by
  intro T hT X
  rcases hr T hT X with ⟨v, st₀, t, T', L, h0, X', hL, e1, e2, ⟨⟨r, u, hv, hp, hb⟩, hF⟩, st⟩ | ⟨q, st₀, t, T', L, E, ce, h0, X', hL, e1, e2, ⟨u, hp, hb, hF⟩, hce, hcv, hcl, st⟩
  · cases hv
    obtain ⟨k1, k2, k3⟩ := vx_keep h0 e1 hS hA hf hL hF
    obtain ⟨t2, a1, b1⟩ := kk r u t T'.heap (locs ++ L) e1.symm (by rw [← e2]; exact X'.warmed.alike) hp hb k1 k2 k3 T' rfl X'
    exact ⟨t2, st t2 a1, b1⟩
  · obtain ⟨k1, k2, k3⟩ := vx_keep h0 e1 hS hAX hf hL hF
    obtain ⟨t2, a1, b1⟩ := kx E ce q u t T'.heap (locs ++ L) e1.symm (by rw [← e2]; exact X'.warmed.alike) hp hb k1 k2 k3 (by rw [e1]; exact hce) hcv hcl T' rfl X'
    exact ⟨t2, st.trans a1, b1⟩
theorem vx_calll {S SX : Type} {post : Int64 → S → Prop} {px : SX → Prop} {B : S → State → Prop} {BX : String → SX → State → Prop} {AX : Nat → Prop} (hr : vx_Run p l e R s m args below meth c H locs cells slots mc ms (F0 m pc ls st0) rest (va_Ql post B A1 a) (vx_X px BX AX) free) (hS : va_S A0 H0 H locs) (hA : ∀ q, q < H.size → A1 q → A0 q) (hf : ∀ q, free q → A0 q) (hAX : ∀ q, q < H.size → AX q → A0 q)
    (kx : ∀ (E : String) (ce : Cell) (q9 : Addr) (u : SX) (t : State) (H1 : Heap) (locs1 : List Loc), t.heap = H1 → s.vm.Alike t.vm → px u → BX E u t → H.size ≤ H1.size → (∀ q : Nat, q < H.size → ¬ AX q → H1[q]? = H[q]?) → va_S A0 H0 H1 locs1 → H1[q9]? = some ce → ce.vm = .none → s.vm.findClass E = some ce.cls → vx_W p l e R s m args below meth c H1 locs1 (cells + mc) (slots + ms) Q (F0 m pc ls rest) q9)
    (kk : ∀ (r : Int64) (u : S) (t : State) (H1 : Heap) (locs1 : List Loc), t.heap = H1 → s.vm.Alike t.vm → post r u → B u t → H.size ≤ H1.size → (∀ q : Nat, q < H.size → ¬ A1 q → H1[q]? = H[q]?) → va_S A0 H0 H1 locs1 → W p l e R s m args below meth c H1 locs1 (cells + mc) (slots + ms) Q (F0 m (pc + 3) ls (.long r :: rest))) : W p l e R s m args below meth c H locs cells slots Q (F0 m pc ls st0) := by
  intro T hT X
  rcases hr T hT X with ⟨v, st₀, t, T', L, h0, X', hL, e1, e2, ⟨⟨r, u, hv, hp, hb⟩, hF⟩, st⟩ | ⟨q, st₀, t, T', L, E, ce, h0, X', hL, e1, e2, ⟨u, hp, hb, hF⟩, hce, hcv, hcl, st⟩
  · cases hv
    obtain ⟨k1, k2, k3⟩ := vx_keep h0 e1 hS hA hf hL hF
    obtain ⟨t2, a1, b1⟩ := kk r u t T'.heap (locs ++ L) e1.symm (by rw [← e2]; exact X'.warmed.alike) hp hb k1 k2 k3 T' rfl X'
    exact ⟨t2, st t2 a1, b1⟩
  · obtain ⟨k1, k2, k3⟩ := vx_keep h0 e1 hS hAX hf hL hF
    obtain ⟨t2, a1, b1⟩ := kx E ce q u t T'.heap (locs ++ L) e1.symm (by rw [← e2]; exact X'.warmed.alike) hp hb k1 k2 k3 (by rw [e1]; exact hce) hcv hcl T' rfl X'
    exact ⟨t2, st.trans a1, b1⟩
theorem vx_callf {S SX : Type} {post : UInt32 → S → Prop} {px : SX → Prop} {B : S → State → Prop} {BX : String → SX → State → Prop} {AX : Nat → Prop} (hr : vx_Run p l e R s m args below meth c H locs cells slots mc ms (F0 m pc ls st0) rest (va_Qf post B A1 a) (vx_X px BX AX) free) (hS : va_S A0 H0 H locs) (hA : ∀ q, q < H.size → A1 q → A0 q) (hf : ∀ q, free q → A0 q) (hAX : ∀ q, q < H.size → AX q → A0 q)
    (kx : ∀ (E : String) (ce : Cell) (q9 : Addr) (u : SX) (t : State) (H1 : Heap) (locs1 : List Loc), t.heap = H1 → s.vm.Alike t.vm → px u → BX E u t → H.size ≤ H1.size → (∀ q : Nat, q < H.size → ¬ AX q → H1[q]? = H[q]?) → va_S A0 H0 H1 locs1 → H1[q9]? = some ce → ce.vm = .none → s.vm.findClass E = some ce.cls → vx_W p l e R s m args below meth c H1 locs1 (cells + mc) (slots + ms) Q (F0 m pc ls rest) q9)
    (kk : ∀ (r : UInt32) (u : S) (t : State) (H1 : Heap) (locs1 : List Loc), t.heap = H1 → s.vm.Alike t.vm → post r u → B u t → H.size ≤ H1.size → (∀ q : Nat, q < H.size → ¬ A1 q → H1[q]? = H[q]?) → va_S A0 H0 H1 locs1 → W p l e R s m args below meth c H1 locs1 (cells + mc) (slots + ms) Q (F0 m (pc + 3) ls (.float r :: rest))) : W p l e R s m args below meth c H locs cells slots Q (F0 m pc ls st0) := by
  intro T hT X
  rcases hr T hT X with ⟨v, st₀, t, T', L, h0, X', hL, e1, e2, ⟨⟨r, u, hv, hp, hb⟩, hF⟩, st⟩ | ⟨q, st₀, t, T', L, E, ce, h0, X', hL, e1, e2, ⟨u, hp, hb, hF⟩, hce, hcv, hcl, st⟩
  · cases hv
    obtain ⟨k1, k2, k3⟩ := vx_keep h0 e1 hS hA hf hL hF
    obtain ⟨t2, a1, b1⟩ := kk r u t T'.heap (locs ++ L) e1.symm (by rw [← e2]; exact X'.warmed.alike) hp hb k1 k2 k3 T' rfl X'
    exact ⟨t2, st t2 a1, b1⟩
  · obtain ⟨k1, k2, k3⟩ := vx_keep h0 e1 hS hAX hf hL hF
    obtain ⟨t2, a1, b1⟩ := kx E ce q u t T'.heap (locs ++ L) e1.symm (by rw [← e2]; exact X'.warmed.alike) hp hb k1 k2 k3 (by rw [e1]; exact hce) hcv hcl T' rfl X'
    exact ⟨t2, st.trans a1, b1⟩
theorem vx_calld {S SX : Type} {post : UInt64 → S → Prop} {px : SX → Prop} {B : S → State → Prop} {BX : String → SX → State → Prop} {AX : Nat → Prop} (hr : vx_Run p l e R s m args below meth c H locs cells slots mc ms (F0 m pc ls st0) rest (va_Qd post B A1 a) (vx_X px BX AX) free) (hS : va_S A0 H0 H locs) (hA : ∀ q, q < H.size → A1 q → A0 q) (hf : ∀ q, free q → A0 q) (hAX : ∀ q, q < H.size → AX q → A0 q)
    (kx : ∀ (E : String) (ce : Cell) (q9 : Addr) (u : SX) (t : State) (H1 : Heap) (locs1 : List Loc), t.heap = H1 → s.vm.Alike t.vm → px u → BX E u t → H.size ≤ H1.size → (∀ q : Nat, q < H.size → ¬ AX q → H1[q]? = H[q]?) → va_S A0 H0 H1 locs1 → H1[q9]? = some ce → ce.vm = .none → s.vm.findClass E = some ce.cls → vx_W p l e R s m args below meth c H1 locs1 (cells + mc) (slots + ms) Q (F0 m pc ls rest) q9)
    (kk : ∀ (r : UInt64) (u : S) (t : State) (H1 : Heap) (locs1 : List Loc), t.heap = H1 → s.vm.Alike t.vm → post r u → B u t → H.size ≤ H1.size → (∀ q : Nat, q < H.size → ¬ A1 q → H1[q]? = H[q]?) → va_S A0 H0 H1 locs1 → W p l e R s m args below meth c H1 locs1 (cells + mc) (slots + ms) Q (F0 m (pc + 3) ls (.double r :: rest))) : W p l e R s m args below meth c H locs cells slots Q (F0 m pc ls st0) := by
  intro T hT X
  rcases hr T hT X with ⟨v, st₀, t, T', L, h0, X', hL, e1, e2, ⟨⟨r, u, hv, hp, hb⟩, hF⟩, st⟩ | ⟨q, st₀, t, T', L, E, ce, h0, X', hL, e1, e2, ⟨u, hp, hb, hF⟩, hce, hcv, hcl, st⟩
  · cases hv
    obtain ⟨k1, k2, k3⟩ := vx_keep h0 e1 hS hA hf hL hF
    obtain ⟨t2, a1, b1⟩ := kk r u t T'.heap (locs ++ L) e1.symm (by rw [← e2]; exact X'.warmed.alike) hp hb k1 k2 k3 T' rfl X'
    exact ⟨t2, st t2 a1, b1⟩
  · obtain ⟨k1, k2, k3⟩ := vx_keep h0 e1 hS hAX hf hL hF
    obtain ⟨t2, a1, b1⟩ := kx E ce q u t T'.heap (locs ++ L) e1.symm (by rw [← e2]; exact X'.warmed.alike) hp hb k1 k2 k3 (by rw [e1]; exact hce) hcv hcl T' rfl X'
    exact ⟨t2, st.trans a1, b1⟩
theorem vx_callv {S SX : Type} {post : S → Prop} {px : SX → Prop} {B : S → State → Prop} {BX : String → SX → State → Prop} {AX : Nat → Prop} (hr : vx_Run p l e R s m args below meth c H locs cells slots mc ms (F0 m pc ls st0) rest (va_Qv post B A1 a) (vx_X px BX AX) free) (hS : va_S A0 H0 H locs) (hA : ∀ q, q < H.size → A1 q → A0 q) (hf : ∀ q, free q → A0 q) (hAX : ∀ q, q < H.size → AX q → A0 q)
    (kx : ∀ (E : String) (ce : Cell) (q9 : Addr) (u : SX) (t : State) (H1 : Heap) (locs1 : List Loc), t.heap = H1 → s.vm.Alike t.vm → px u → BX E u t → H.size ≤ H1.size → (∀ q : Nat, q < H.size → ¬ AX q → H1[q]? = H[q]?) → va_S A0 H0 H1 locs1 → H1[q9]? = some ce → ce.vm = .none → s.vm.findClass E = some ce.cls → vx_W p l e R s m args below meth c H1 locs1 (cells + mc) (slots + ms) Q (F0 m pc ls rest) q9)
    (kk : ∀ (u : S) (t : State) (H1 : Heap) (locs1 : List Loc), t.heap = H1 → s.vm.Alike t.vm → post u → B u t → H.size ≤ H1.size → (∀ q : Nat, q < H.size → ¬ A1 q → H1[q]? = H[q]?) → va_S A0 H0 H1 locs1 → W p l e R s m args below meth c H1 locs1 (cells + mc) (slots + ms) Q (F0 m (pc + 3) ls (rest))) : W p l e R s m args below meth c H locs cells slots Q (F0 m pc ls st0) := by
  intro T hT X
  rcases hr T hT X with ⟨v, st₀, t, T', L, h0, X', hL, e1, e2, ⟨⟨u, hv, hp, hb⟩, hF⟩, st⟩ | ⟨q, st₀, t, T', L, E, ce, h0, X', hL, e1, e2, ⟨u, hp, hb, hF⟩, hce, hcv, hcl, st⟩
  · cases hv
    obtain ⟨k1, k2, k3⟩ := vx_keep h0 e1 hS hA hf hL hF
    obtain ⟨t2, a1, b1⟩ := kk u t T'.heap (locs ++ L) e1.symm (by rw [← e2]; exact X'.warmed.alike) hp hb k1 k2 k3 T' rfl X'
    exact ⟨t2, st t2 a1, b1⟩
  · obtain ⟨k1, k2, k3⟩ := vx_keep h0 e1 hS hAX hf hL hF
    obtain ⟨t2, a1, b1⟩ := kx E ce q u t T'.heap (locs ++ L) e1.symm (by rw [← e2]; exact X'.warmed.alike) hp hb k1 k2 k3 (by rw [e1]; exact hce) hcv hcl T' rfl X'
    exact ⟨t2, st.trans a1, b1⟩
/-- caught by the row x of this method's table; the rows ahead don't take it -/
theorem vx_catch {own name : String} {E : String} {ce : Cell} {q : Addr} (hown : s.vm.findClass own = some m.cls) (pre : List ExceptionTableEntry) (x : ExceptionTableEntry) (suf : List ExceptionTableEntry) (hsplit : c.exceptionTable.toList = pre ++ x :: suf)
    (hpass : ∀ z ∈ pre, covers z pc = false ∨ (z.catchType ≠ 0 ∧ ∃ nm : String, (Cond.classLink own z.catchType nm).before args s = true ∧ va_Nc E nm s)) (hx : covers x pc = true) (h0 : x.catchType ≠ 0)
    (hlink : (Cond.classLink own x.catchType name).before args s = true) (hcast : (Cond.castable E name).before args s = true) (hcell : H[q]? = some ce) (hv : ce.vm = .none) (hcl : s.vm.findClass E = some ce.cls)
    (kk : W p l e R s m args below meth c H locs cells slots Q (F0 m x.handlerPc ls [.ref q])) : vx_W p l e R s m args below meth c H locs cells slots Q (F0 m pc ls rest) q := by
  intro T hT X
  have hpl : e.platform.magicAccessors = ({} : Platform).magicAccessors := by rw [X.admits.platform]
  obtain ⟨c3, c4, hc3, hc4, hasg⟩ := Cond.castable_spec hcast
  cases Option.some.inj (hc3.symm.trans hcl)
  obtain ⟨c5, hc5, hcl5⟩ := Cond.classLink_spec hown hlink e.platform hpl
  cases Option.some.inj (hc4.symm.trans hc5)
  obtain ⟨vm', X', st⟩ := X.thenCaughtThrough q (g := F0 m pc ls rest) rfl (Steps.refl _) (by rw [hT]; exact hcell) (by rw [hv]; rfl) (by obtain ⟨k9, h9, -⟩ := Vm.findClass_spec hcl; exact ⟨k9, h9⟩) pre x suf hsplit
    (fun z hz => by
      rcases hpass z hz with h | ⟨hz0, nm, hl1, hn1⟩
      · exact Or.inl h
      · obtain ⟨c6, hc6, hcl6⟩ := Cond.classLink_spec hown hl1 e.platform hpl
        obtain ⟨a8, b8, h1, h2, h3⟩ := hn1
        cases Option.some.inj (h1.symm.trans hcl)
        cases Option.some.inj (h2.symm.trans hc6)
        exact Or.inr ⟨hz0, _, hcl6, h3⟩) hx (Or.inr ⟨h0, c4, hcl5, hasg⟩)
  obtain ⟨t, a1, b1⟩ := kk (T.setVm vm') hT X'
  exact ⟨t, st.trans a1, b1⟩
end Rows
section Ends
variable {p : Program} {l : Launch} {e : Env} {R : Room} {s : State} {m : MethodId} {args : Array Value} {below : List Frame} {meth : Method} {c : Code} {H : Heap} {locs : List Loc} {cells slots : Nat} {Q : State → Prop}
variable {mc ms : Nat} {free : Addr → Prop} {A0 A1 : Nat → Prop} {H0 : Heap} {a : Array Value} {ls : Array Slot} {st0 rest : List Value}
variable {Qc : Array Value → State → Outcome → State → Prop} {XC : String → State → State → Prop}
/-- what a body that may throw owes at its end -/
def vx_MQ (below : List Frame) (Qc : Array Value → State → Outcome → State → Prop) (XC : String → State → State → Prop) (a : Array Value) (s : State) (mc ms : Nat) (free : Addr → Prop) : State → Prop := fun t =>
  ∃ o, t.status = .running ∧ Ended t below o ∧ vx_Q Qc XC mc ms free a s o t
theorem vx_ret {g : JFrame} {mc ms : Nat} (k : W p l e R s m args below meth c H locs cells slots (MQ below Qc args s mc ms free) g) : W p l e R s m args below meth c H locs cells slots (vx_MQ below Qc XC args s mc ms free) g := by
  intro T hT X
  obtain ⟨t, a1, o, b1, b2, b3, b4⟩ := k T hT X
  exact ⟨t, a1, o, b1, b2, Or.inl ⟨b3, b4⟩⟩
/-- not caught here: it goes on to the caller -/
theorem vx_widen {g : JFrame} {q : Addr} {k n : Nat} (h1 : cells ≤ k) (h2 : slots ≤ n) (kk : vx_W p l e R s m args below meth c H locs k n Q g q) : vx_W p l e R s m args below meth c H locs cells slots Q g q := fun T hT X => kk T hT (stand_widen X h1 h2)
theorem vx_out {pc : Nat} {E : String} {ce : Cell} {q : Addr} {mc ms : Nat} (hout : ∀ x ∈ c.exceptionTable.toList, covers x pc = false) (hlocks : meth.locks = false) (hcell : H[q]? = some ce) (hv : ce.vm = .none) (hcl : s.vm.findClass E = some ce.cls)
    (hx : ∀ t : State, t.heap = H → s.vm.Alike t.vm → XC E s t) (hf : ∀ z ∈ locs, free z.base) (hc : cells ≤ mc) (hs : slots ≤ ms) :
    vx_W p l e R s m args below meth c H locs cells slots (vx_MQ below Qc XC args s mc ms free) (F0 m pc ls rest) q := by
  intro T hT X
  obtain ⟨st1, hrun, hend, hW, hsm⟩ := X.leaveThrown q (g := F0 m pc ls rest) rfl rfl rfl hout hlocks
  have hcell9 : (T.setFrames (.throwing q :: below)).heap[q]? = some ce := by
    show T.heap[q]? = some ce
    rw [hT]; exact hcell
  exact ⟨_, st1, .threw q, hrun, hend, Or.inr ⟨q, rfl, E, ce, locs, hx _ hT hW.alike, hcell9, hv, hcl, hW, hsm.mono hc hs, hf⟩⟩
theorem vx_frame {U : State} {k n : Nat} (h : s.sameButNew ({ U with vm := s.vm } : State) locs k n) : s.heap.size ≤ U.heap.size ∧ ∀ q : Nat, q < s.heap.size → (∀ z ∈ locs, z.base ≠ q) → U.heap[q]? = s.heap[q]? := by
  obtain ⟨-, h2, -, -, -, h6⟩ := h
  refine ⟨h2, fun q hq hz => ?_⟩
  obtain ⟨c9, e1, e2, e3, e4⟩ := h6 q _ (Array.getElem?_eq_getElem hq)
  have hs : c9.slots = (s.heap[q]).slots := Array.ext_getElem? fun i => e4 i fun hm => hz _ hm rfl
  have h9 : c9 = s.heap[q] := by
    rw [hs] at e2
    exact e2
  have e5 : U.heap[q]? = some c9 := e1
  rw [e5, h9, Array.getElem?_eq_getElem hq]
/-- the words of a throw but the four that speak of the heap -/
def vx_no (w : Cond) : Bool := decide (w ≠ .isRef (.static Bundle.tN "UNASSIGNED_STACK" Bundle.steD)) && decide (w ≠ .isRef (.static Bundle.tN "SUPPRESSED_SENTINEL" Bundle.listD)) && decide (w ≠ .laysStatic Bundle.tN "UNASSIGNED_STACK" Bundle.steD) && decide (w ≠ .laysStatic Bundle.tN "SUPPRESSED_SENTINEL" Bundle.listD)
def vx_at0 (own : String) (ic : Nat) (X : String) (names : List String) : List Cond := (Bundle.ownAtoms0 own ic X names).filter vx_no
def vx_atS (own : String) (ic : Nat) (X : String) (names : List String) : List Cond := (Bundle.ownAtoms own ic X names).filter vx_no
/-- a word that the tables alone decide, or a good one -/
def vx_ot (w : Cond) : Bool := w.onTables || goodWord w
theorem vx_ot_at {args a' : Array Value} {s U : State} {w : Cond} (hW : s.WarmedH U.vm) (hvm : s.vm = U.vm) (hg : vx_ot w = true) (h : w.before args s = true) : w.before a' U = true := by
  simp only [vx_ot, Bool.or_eq_true] at hg
  rcases hg with hg | hg
  · exact va_tabs hg hvm h
  · exact word_at hW (good_of_word hg) h
/-- a list's words: the good ones out of the method's own list, the others by premises of their own -/
theorem vx_hat {args : Array Value} {s : State} {L B : List Cond} (h1 : ∀ w ∈ L.filter goodWord, w.before args s = true) (h2 : ∀ w ∈ L.filter (fun w => !goodWord w), w ∈ B) (h3 : ∀ w ∈ B, w.before args s = true) : ∀ w ∈ L, w.before args s = true := by
  intro w hw
  by_cases g : goodWord w = true
  · exact h1 w (List.mem_filter.mpr ⟨hw, g⟩)
  · refine h3 w (h2 w (List.mem_filter.mpr ⟨hw, ?_⟩))
    show (!goodWord w) = true
    cases hgw : goodWord w
    · rfl
    · exact absurd hgw g
theorem vx_c {args : Array Value} {s : State} {w : Cond} {B : List Cond} (h : w.before args s = true) (t : ∀ w ∈ B, w.before args s = true) : ∀ w' ∈ w :: B, w'.before args s = true := fun w' h' => (List.mem_cons.mp h').elim (fun e => by rw [e]; exact h) (t w')
theorem vx_n {args : Array Value} {s : State} : ∀ w ∈ ([] : List Cond), w.before args s = true := fun _ h => nomatch h
theorem vx_own {args : Array Value} {s : State} {L : List Cond} (h1 : ∀ w ∈ L.filter vx_no, w.before args s = true)
    (hU : (Cond.isRef (.static Bundle.tN "UNASSIGNED_STACK" Bundle.steD)).before args s = true) (hN : (Cond.isRef (.static Bundle.tN "SUPPRESSED_SENTINEL" Bundle.listD)).before args s = true)
    (lU : (Cond.laysStatic Bundle.tN "UNASSIGNED_STACK" Bundle.steD).before args s = true) (lN : (Cond.laysStatic Bundle.tN "SUPPRESSED_SENTINEL" Bundle.listD).before args s = true) : ∀ w ∈ L, w.before args s = true := by
  intro w hw
  by_cases e1 : w = .isRef (.static Bundle.tN "UNASSIGNED_STACK" Bundle.steD)
  · rw [e1]; exact hU
  · by_cases e2 : w = .isRef (.static Bundle.tN "SUPPRESSED_SENTINEL" Bundle.listD)
    · rw [e2]; exact hN
    · by_cases e3 : w = .laysStatic Bundle.tN "UNASSIGNED_STACK" Bundle.steD
      · rw [e3]; exact lU
      · by_cases e4 : w = .laysStatic Bundle.tN "SUPPRESSED_SENTINEL" Bundle.listD
        · rw [e4]; exact lN
        · exact h1 w (List.mem_filter.mpr ⟨hw, by unfold vx_no; rw [decide_eq_true e1, decide_eq_true e2, decide_eq_true e3, decide_eq_true e4]; rfl⟩)
/-- where a static field lies, its class's statics cell in H -/
def vx_L (C n d : String) (A : Nat → Prop) (U : State) (H : Heap) : Prop := ∃ (c : ClassId) (k : Class) (i : Nat) (f : Field) (a : Nat) (cell : Cell), U.vm.findClass C = some c ∧ U.fieldFound? C n d = some (c, k, i, f) ∧ f.isStatic = true ∧ k.statics = some a ∧ H[a]? = some cell ∧ cell.vm.isStatics = true ∧ cell.cls = c ∧ f.slot < cell.slots.size ∧ k.staticTypes[f.slot]? = some f.type ∧ ¬ A a
theorem vx_L.moved {C n d : String} {A : Nat → Prop} {u U : State} {H : Heap} (hvm : u.vm.Alike U.vm) (h : vx_L C n d A u H) : vx_L C n d A U H := by
  obtain ⟨c, k, i, f, a, cell, h1, h2, h3, h4, h5, h6, h7, h8, h9, h10⟩ := h
  obtain ⟨k', hi', he⟩ := State.fieldFound?_setVm hvm h2
  exact ⟨c, k', i, f, a, cell, by rw [hvm.findClass]; exact h1, hi', h3, by rw [he]; exact h4, h5, h6, h7, h8, by rw [he]; exact h9, h10⟩
theorem vx_L.kept {C n d : String} {A : Nat → Prop} {U : State} {H H1 : Heap} (h : vx_L C n d A U H) (hq : ∀ a : Nat, a < H.size → ¬ A a → H1[a]? = H[a]?) : vx_L C n d A U H1 := by
  obtain ⟨c, k, i, f, a, cell, h1, h2, h3, h4, h5, h6, h7, h8, h9, h10⟩ := h
  exact ⟨c, k, i, f, a, cell, h1, h2, h3, h4, by rw [hq a (Array.getElem?_eq_some_iff.mp h5).1 h10]; exact h5, h6, h7, h8, h9, h10⟩
theorem vx_L.narrow {C n d : String} {A B : Nat → Prop} {U : State} {H : Heap} (h : vx_L C n d A U H) (hAB : ∀ q, B q → A q) : vx_L C n d B U H := by
  obtain ⟨c, k, i, f, a, cell, h1, h2, h3, h4, h5, h6, h7, h8, h9, h10⟩ := h
  exact ⟨c, k, i, f, a, cell, h1, h2, h3, h4, h5, h6, h7, h8, h9, fun z => h10 (hAB _ z)⟩
theorem vx_L.word {C n d : String} {A : Nat → Prop} {s : State} {args : Array Value} (h : vx_L C n d A s s.heap) : (Cond.laysStatic C n d).before args s = true := by
  obtain ⟨c, k, i, f, a, cell, h1, h2, h3, h4, h5, h6, h7, h8, h9, -⟩ := h
  show (Cond.laysStatic C n d).holds args s none s [] = true
  exact Cond.laysStatic_of h1 h2 h3 h4 h5 h6 h7 h8 h9
/-- .. and what it holds: null or some reference -/
def vx_Zq (C n d : String) (A : Nat → Prop) (U : State) (H : Heap) : Prop := va_Zq C n d A U H ∧ vx_L C n d A U H
theorem vx_Zq.moved {C n d : String} {A : Nat → Prop} {u U : State} {H : Heap} (hvm : u.vm.Alike U.vm) (h : vx_Zq C n d A u H) : vx_Zq C n d A U H := ⟨va_Zq.moved hvm h.1, vx_L.moved hvm h.2⟩
theorem vx_Zq.kept {C n d : String} {A : Nat → Prop} {U : State} {H H1 : Heap} (h : vx_Zq C n d A U H) (hq : ∀ a : Nat, a < H.size → ¬ A a → H1[a]? = H[a]?) : vx_Zq C n d A U H1 := ⟨va_Zq.kept h.1 hq, vx_L.kept h.2 hq⟩
theorem vx_Zq.narrow {C n d : String} {A B : Nat → Prop} {U : State} {H : Heap} (h : vx_Zq C n d A U H) (hAB : ∀ q, B q → A q) : vx_Zq C n d B U H := ⟨va_Zq.narrow h.1 hAB, vx_L.narrow h.2 hAB⟩
theorem vx_Zqof {args : Array Value} {s : State} {C n d : String} {A : Nat → Prop} (hl : (Cond.laysStatic C n d).before args s = true) (hini : (Cond.initialized C).before args s = true) (h : (Cond.isRef (.static C n d)).before args s = true) (hA : ∀ a : Nat, a < s.heap.size → ¬ A a) : vx_Zq C n d A s s.heap := by
  refine ⟨va_Zqof hl hini h hA, ?_⟩
  obtain ⟨c, k, i, f, a, cell, h1, h2, h3, h4, h5, h6, h7, h8, h9⟩ := Cond.laysStatic_spec hl
  exact ⟨c, k, i, f, a, cell, h1, h2, h3, h4, h5, h6, h7, h8, h9, hA a (Array.getElem?_eq_some_iff.mp h5).1⟩
theorem vx_isRef {C n d : String} {v : Value} {A : Nat → Prop} {s : State} {args : Array Value} (h : va_Z C n d v A s s.heap) (hv : v.isRef = true) : (Cond.isRef (.static C n d)).before args s = true := by
  obtain ⟨cf, kf, fi, f, a, cell, h1, h2, h3, h4, h5, h6, h7, -⟩ := h
  have he : (Term.static C n d).eval args s none [] s = some v := by
    simp [Term.eval, State.fieldNamed?, h1, h2, h4, h5, h6, h7]
  simp only [Cond.before, Cond.holds, Cond.value, he]
  cases v <;> simp_all [Value.isRef]
theorem vx_isRefq {C n d : String} {A : Nat → Prop} {s : State} {args : Array Value} (h : va_Zq C n d A s s.heap) : (Cond.isRef (.static C n d)).before args s = true := by
  rcases h with h | ⟨t, h⟩
  · exact vx_isRef h rfl
  · exact vx_isRef h rfl
/-- the same frame, seen from here: as if the method were called anew in this heap -/
theorem vx_rebase {T : State} (X : Stand p l e R s m args below meth c T locs cells slots) {R' : Room} (hf : R'.frames ≤ R.frames) (hl : R'.locals ≤ R.locals) (hc : cells + R'.cells ≤ R.cells) (hs : slots + R'.slots ≤ R.slots) :
    Stand p l e R' ((T.setVm s.vm).setFrames (.invoking m args :: below)) m args below meth c T [] 0 0 := by
  have htop : (T.setVm s.vm).topJava?.isSome := X.here.top
  have hF : ((T.setVm s.vm).setFrames (.invoking m args :: below)).frames = .invoking m args :: below := State.frames_setFrames _ (State.cur_lt_of_top htop)
  obtain ⟨g₀, hg0⟩ := Option.isSome_iff_exists.mp htop
  obtain ⟨r, hr⟩ := State.topJava?_eq_some.mp hg0
  have hl9 : e.platform.stackLimits (T.setVm s.vm).me = e.platform.stackLimits s.me := X.limits
  have hb9 : (T.setVm s.vm).me.stackBytes = s.me.stackBytes := X.bytes
  refine ⟨X.admits, X.cas, X.clock, hF, ?_, X.hears, X.method, X.code, X.here, X.tail, X.warmed, ?_, ?_, ?_⟩
  · have h := X.room
    have hU : ((T.setVm s.vm).setFrames (.invoking m args :: below)).localsInUse = s.localsInUse := by
      rw [State.localsInUse_invoking hF (meth := meth) (c := c) X.method X.code, State.localsInUse_invoking X.frames X.method X.code]
    simp only [State.hasRoom, Bool.and_eq_true, decide_eq_true_eq] at h ⊢
    obtain ⟨⟨⟨⟨h1, h2, h3, h4, h5, h6⟩, h7⟩, h8⟩, h9⟩ := h
    rw [X.frames, List.length_cons] at h2 h3
    have q1 := X.heapSize
    have q2 := X.used
    simp only [hF, hU, List.length_cons, State.stackLimits_setFrames, State.stackBytes_setFrames, hl9, hb9]
    refine ⟨⟨⟨⟨by omega, by omega, by omega, by omega, by omega, h6⟩, ?_⟩, ?_⟩, X.book⟩
    · show T.heap.size + R'.cells ≤ e.platform.maxCells
      omega
    · show T.slotsUsed + R'.slots ≤ e.platform.maxSlots
      omega
  · rw [State.stackLimits_setFrames]; rfl
  · rw [State.stackBytes_setFrames]; rfl
  · refine ⟨?_, Nat.le_refl _, Nat.le_refl _, ?_, ?_, fun a c9 h9 => ⟨c9, h9, rfl, rfl, fun _ _ => rfl⟩⟩
    · obtain ⟨t, ht, -⟩ := State.frames_cons hr
      show T.setVm s.vm = { ((T.setVm s.vm).setFrames (.invoking m args :: below)).setFrames (T.setVm s.vm).frames with heap := T.heap, slotsUsed := T.slotsUsed }
      rw [State.setFrames_setFrames, State.setFrames_self ht]
      rfl
    · show T.slotsUsed = T.slotsUsed + ((T.heap.toList.drop T.heap.size).map (·.slots.size)).sum
      rw [List.drop_eq_nil_of_le (Nat.le_of_eq Array.length_toList)]
      rfl
    · show ((T.heap.toList.drop T.heap.size).map (·.slots.size)).sum ≤ 0
      rw [List.drop_eq_nil_of_le (Nat.le_of_eq Array.length_toList)]
      exact Nat.le_refl _
/-- 'throw new E()': new; dup; invokespecial; athrow -/
theorem vx_throw0 {cc : ByteArray} {pc : Nat} (hexec : p.tables.exec = Jvm.exec) (hb : c.code = cc) (hl : l.stackTraces = false) {own cls : String} {names : List String} {ik ic mc ms : Nat} {A : Nat → Prop}
    (hown : s.vm.findClass own = some m.cls) (hcls : Bundle.fit cls = true) (hnames : ∀ n ∈ names, Bundle.fit n = true)
    (hk : (Cond.classLink own ik cls).before args s = true) (hini : (Cond.initialized cls).before args s = true) (hat : ∀ w ∈ vx_at0 own ic cls names, w.before args s = true)
    (hgood : ∀ w ∈ Cond.classLink own ik cls :: Cond.initialized cls :: vx_at0 own ic cls names, vx_ot w = true)
    (hU : vx_Zq Bundle.tN "UNASSIGNED_STACK" Bundle.steD A s s.heap) (hN : vx_Zq Bundle.tN "SUPPRESSED_SENTINEL" Bundle.listD A s s.heap) (hS : va_S A s.heap H locs) (hsize : ls.size = c.maxLocals)
    (d0 : decode cc pc = .ok (.new ik, 3)) (d3 : decode cc (pc + 3) = .ok (.dup, 1)) (d4 : decode cc (pc + 4) = .ok (.invokespecial ic, 3)) (d7 : decode cc (pc + 7) = .ok (.athrow, 1))
    (hout : ∀ x ∈ c.exceptionTable.toList, covers x (pc + 7) = false)
    (hRframes : names.length + 3 < R.frames) (hRlocals : (rest.map fun v => v.category).sum + (13 * (names.length + 1) + 42) ≤ R.locals) (hRcells : cells + 1 ≤ R.cells) (hRslots : slots + 6 ≤ R.slots) (hlocks : meth.locks = false)
    (hx : ∀ t : State, s.vm.Alike t.vm → H.size ≤ t.heap.size → (∀ q : Nat, q < H.size → t.heap[q]? = H[q]?) → XC cls s t)
    (hf : ∀ z ∈ locs, free z.base) (hc : cells + 1 ≤ mc) (hs : slots + 6 ≤ ms) :
    W p l e R s m args below meth c H locs cells slots (vx_MQ below Qc XC args s mc ms free) (F0 m pc ls rest) := by
  intro T hT X
  have htr : e.platform.stackTraces = false := (show e.platform.stackTraces = l.stackTraces by rw [X.admits.platform]).trans hl
  have Y := vx_rebase X (R' := { frames := R.frames, locals := R.locals, cells := 1, slots := 6 }) (Nat.le_refl _) (Nat.le_refl _) hRcells hRslots
  obtain ⟨s', hA⟩ : ∃ z, z = (T.setVm s.vm).setFrames (.invoking m args :: below) := ⟨_, rfl⟩
  rw [← hA] at Y
  have hvm : s'.vm = s.vm := by rw [hA]; rfl
  have hhp : s'.heap = H := by rw [hA]; exact hT
  have hW0 : s.WarmedH s'.vm := by rw [hvm]; exact State.WarmedH.refl s
  have hat' : ∀ w ∈ vx_at0 own ic cls names, w.before args s' = true := fun w hw => vx_ot_at hW0 hvm.symm (hgood w (List.mem_cons_of_mem _ (List.mem_cons_of_mem _ hw))) (hat w hw)
  have hk' : (Cond.classLink own ik cls).before args s' = true := vx_ot_at hW0 hvm.symm (hgood _ List.mem_cons_self) hk
  have hini' : (Cond.initialized cls).before args s' = true := vx_ot_at hW0 hvm.symm (hgood _ (List.mem_cons_of_mem _ List.mem_cons_self)) hini
  have hU' : vx_Zq Bundle.tN "UNASSIGNED_STACK" Bundle.steD A s' s'.heap := by rw [hhp]; exact vx_Zq.moved hW0.alike (hU.kept hS.2.1)
  have hN' : vx_Zq Bundle.tN "SUPPRESSED_SENTINEL" Bundle.listD A s' s'.heap := by rw [hhp]; exact vx_Zq.moved hW0.alike (hN.kept hS.2.1)
  have h : ∀ w ∈ Bundle.ownAtoms0 own ic cls names, w.before args s' = true := vx_own hat' (vx_isRefq hU'.1) (vx_isRefq hN'.1) hU'.2.word hN'.2.word
  have hown' : s'.vm.findClass own = some m.cls := by rw [hvm]; exact hown
  have hins : (Cond.instantiable cls 6).before args s' = true := h _ (by simp [Bundle.ownAtoms0])
  obtain ⟨vm₁, cX, kX, hfX, hkX, -, -, X₁, st1⟩ := Y.newCold hexec (own := own) (C := cls) (index := ik) (n := 6) hown' hk' hins hini'
    (g := F0 m pc ls rest) rfl (by rw [hb]; exact d0) (Nat.le_refl _) (Nat.le_refl _)
  generalize hT1 : (T.setVm vm₁).pushCell { cls := cX, slots := kX.instanceTypes.map defaultValue, vm := .none } = T1 at X₁ st1
  have hcat : (Value.ref T.heap.size).category = 1 := rfl
  have hcellA : T1.heap[T.heap.size]? = some (freshCell cX kX) := by rw [← hT1]; exact State.heap_pushCell_size _ _
  have d3' : decode c.code (pc + 3) = .ok (.dup, 1) := by rw [hb]; exact d3
  obtain ⟨U, hsteps, hrun, hend, hW, hsame, ce, hce, hO⟩ := X₁.ctorThrow0 hexec htr (own := own) (cls := cls) (names := names) (ic := ic) hown' hcls hnames h (fun x hx => nomatch hx) hfX hkX hcellA (by rw [hhp, hT]; exact Nat.le_refl _)
    (g := { method := m, pc := pc + 4, locals := ls, stack := .ref T.heap.size :: .ref T.heap.size :: rest, locked := none }) rfl hsize rfl rfl (rest := rest) rfl
    (by rw [hb]; exact d4) (by rw [hb]; exact d7) hout hRframes (by simp only [List.map_cons, List.sum_cons, hcat]; omega) hlocks
  obtain ⟨f1, f2⟩ := vx_frame hsame
  rw [hhp] at f1 f2
  have hWs : s.WarmedH U.vm := State.WarmedH.trans hW0 hW
  have hcl : s.vm.findClass cls = some ce.cls := by
    have h9 := hO.cls
    rw [hvm] at h9
    exact h9
  have hall : s.sameButNew ({ U with vm := s.vm } : State) locs mc ms := by
    subst hA
    obtain ⟨e1, e2⟩ := hsame
    rw [State.setFrames_setFrames] at e1
    have h2 : (T.setVm s.vm).sameButNew ({ U with vm := s.vm } : State) [] (0 + 1) (0 + 6) := ⟨e1, e2⟩
    have h3 := X.same.trans h2
    rw [List.append_nil] at h3
    exact h3.mono hc hs
  refine ⟨U, ?_, .threw T.heap.size, hrun, hend, Or.inr ⟨T.heap.size, rfl, cls, ce, locs, hx U hWs.alike f1 (fun q hq => f2 q hq (fun z hz => nomatch hz)), hce, hO.vm, hcl, hWs, hall, hf⟩⟩
  refine st1 _ ?_
  show Steps p.tables e below (T1.setTop { method := m, pc := pc + 3, locals := ls, stack := .ref T.heap.size :: rest, locked := none }) _
  jvm_step X₁.here [X₁.here.top, hexec, d3', Value.category]
  exact hsteps
/-- 'throw new E("text")': new; dup; ldc; invokespecial; athrow -/
theorem vx_throwS {cc : ByteArray} {pc : Nat} (hexec : p.tables.exec = Jvm.exec) (hb : c.code = cc) (hl : l.stackTraces = false) {own cls text : String} {names : List String} {ik is ic mc ms sa : Nat} {A : Nat → Prop}
    (hown : s.vm.findClass own = some m.cls) (hcls : Bundle.fit cls = true) (hnames : ∀ n ∈ names, Bundle.fit n = true)
    (hk : (Cond.classLink own ik cls).before args s = true) (hini : (Cond.initialized cls).before args s = true) (hstr : vk_R own is text sa s) (hat : ∀ w ∈ vx_atS own ic cls names, w.before args s = true)
    (hgood : ∀ w ∈ Cond.classLink own ik cls :: Cond.initialized cls :: vx_atS own ic cls names, vx_ot w = true)
    (hU : vx_Zq Bundle.tN "UNASSIGNED_STACK" Bundle.steD A s s.heap) (hN : vx_Zq Bundle.tN "SUPPRESSED_SENTINEL" Bundle.listD A s s.heap) (hS : va_S A s.heap H locs) (hsize : ls.size = c.maxLocals)
    (d0 : decode cc pc = .ok (.new ik, 3)) (d3 : decode cc (pc + 3) = .ok (.dup, 1)) (d4 : decode cc (pc + 4) = .ok (.ldc is, 2)) (d6 : decode cc (pc + 6) = .ok (.invokespecial ic, 3)) (d9 : decode cc (pc + 9) = .ok (.athrow, 1))
    (hout : ∀ x ∈ c.exceptionTable.toList, covers x (pc + 9) = false)
    (hRframes : names.length + 3 < R.frames) (hRlocals : (rest.map fun v => v.category).sum + (13 * (names.length + 1) + 43) ≤ R.locals) (hRcells : cells + 1 ≤ R.cells) (hRslots : slots + 6 ≤ R.slots) (hlocks : meth.locks = false)
    (hx : ∀ t : State, s.vm.Alike t.vm → H.size ≤ t.heap.size → (∀ q : Nat, q < H.size → t.heap[q]? = H[q]?) → XC cls s t)
    (hf : ∀ z ∈ locs, free z.base) (hc : cells + 1 ≤ mc) (hs : slots + 6 ≤ ms) :
    W p l e R s m args below meth c H locs cells slots (vx_MQ below Qc XC args s mc ms free) (F0 m pc ls rest) := by
  intro T hT X
  have htr : e.platform.stackTraces = false := (show e.platform.stackTraces = l.stackTraces by rw [X.admits.platform]).trans hl
  have Y := vx_rebase X (R' := { frames := R.frames, locals := R.locals, cells := 1, slots := 6 }) (Nat.le_refl _) (Nat.le_refl _) hRcells hRslots
  obtain ⟨s', hA⟩ : ∃ z, z = (T.setVm s.vm).setFrames (.invoking m args :: below) := ⟨_, rfl⟩
  rw [← hA] at Y
  have hvm : s'.vm = s.vm := by rw [hA]; rfl
  have hhp : s'.heap = H := by rw [hA]; exact hT
  have hW0 : s.WarmedH s'.vm := by rw [hvm]; exact State.WarmedH.refl s
  have hat' : ∀ w ∈ vx_atS own ic cls names, w.before args s' = true := fun w hw => vx_ot_at hW0 hvm.symm (hgood w (List.mem_cons_of_mem _ (List.mem_cons_of_mem _ hw))) (hat w hw)
  have hk' : (Cond.classLink own ik cls).before args s' = true := vx_ot_at hW0 hvm.symm (hgood _ List.mem_cons_self) hk
  have hini' : (Cond.initialized cls).before args s' = true := vx_ot_at hW0 hvm.symm (hgood _ (List.mem_cons_of_mem _ List.mem_cons_self)) hini
  have hU' : vx_Zq Bundle.tN "UNASSIGNED_STACK" Bundle.steD A s' s'.heap := by rw [hhp]; exact vx_Zq.moved hW0.alike (hU.kept hS.2.1)
  have hN' : vx_Zq Bundle.tN "SUPPRESSED_SENTINEL" Bundle.listD A s' s'.heap := by rw [hhp]; exact vx_Zq.moved hW0.alike (hN.kept hS.2.1)
  have h : ∀ w ∈ Bundle.ownAtoms own ic cls names, w.before args s' = true := vx_own hat' (vx_isRefq hU'.1) (vx_isRefq hN'.1) hU'.2.word hN'.2.word
  have hown' : s'.vm.findClass own = some m.cls := by rw [hvm]; exact hown
  have hins : (Cond.instantiable cls 6).before args s' = true := h _ (by simp [Bundle.ownAtoms])
  obtain ⟨vm₁, cX, kX, hfX, hkX, -, -, X₁, st1⟩ := Y.newCold hexec (own := own) (C := cls) (index := ik) (n := 6) hown' hk' hins hini'
    (g := F0 m pc ls rest) rfl (by rw [hb]; exact d0) (Nat.le_refl _) (Nat.le_refl _)
  generalize hT1 : (T.setVm vm₁).pushCell { cls := cX, slots := kX.instanceTypes.map defaultValue, vm := .none } = T1 at X₁ st1
  have hcat : (Value.ref T.heap.size).category = 1 := rfl
  have hcellA : T1.heap[T.heap.size]? = some (freshCell cX kX) := by rw [← hT1]; exact State.heap_pushCell_size _ _
  have d3' : decode c.code (pc + 3) = .ok (.dup, 1) := by rw [hb]; exact d3
  have d4' : decode c.code (pc + 4) = .ok (.ldc is, 2) := by rw [hb]; exact d4
  have hstr' : vk_R own is text sa s' := vk_R.warm hW0 hstr
  obtain ⟨U, hsteps, hrun, hend, hW, hsame, ce, hce, hO⟩ := X₁.ctorThrowS hexec htr (own := own) (cls := cls) (names := names) (ic := ic) hown' hcls hnames h (fun x hx => nomatch hx) hfX hkX hcellA (by rw [hhp, hT]; exact Nat.le_refl _) (msg := .ref sa) rfl
    (g := { method := m, pc := pc + 6, locals := ls, stack := .ref sa :: .ref T.heap.size :: .ref T.heap.size :: rest, locked := none }) rfl hsize rfl rfl (rest := rest) rfl
    (by rw [hb]; exact d6) (by rw [hb]; exact d9) hout hRframes (by simp only [List.map_cons, List.sum_cons, hcat]; omega) hlocks
  obtain ⟨f1, f2⟩ := vx_frame hsame
  rw [hhp] at f1 f2
  have hWs : s.WarmedH U.vm := State.WarmedH.trans hW0 hW
  have hcl : s.vm.findClass cls = some ce.cls := by
    have h9 := hO.cls
    rw [hvm] at h9
    exact h9
  have hall : s.sameButNew ({ U with vm := s.vm } : State) locs mc ms := by
    subst hA
    obtain ⟨e1, e2⟩ := hsame
    rw [State.setFrames_setFrames] at e1
    have h2 : (T.setVm s.vm).sameButNew ({ U with vm := s.vm } : State) [] (0 + 1) (0 + 6) := ⟨e1, e2⟩
    have h3 := X.same.trans h2
    rw [List.append_nil] at h3
    exact h3.mono hc hs
  refine ⟨U, ?_, .threw T.heap.size, hrun, hend, Or.inr ⟨T.heap.size, rfl, cls, ce, locs, hx U hWs.alike f1 (fun q hq => f2 q hq (fun z hz => nomatch hz)), hce, hO.vm, hcl, hWs, hall, hf⟩⟩
  refine st1 _ ?_
  show Steps p.tables e below (T1.setTop { method := m, pc := pc + 3, locals := ls, stack := .ref T.heap.size :: rest, locked := none }) _
  jvm_step X₁.here [X₁.here.top, hexec, d3', Value.category]
  exact X₁.ldcString hexec (own := own) (text := text) (index := is) (a := sa) hown' hstr'.1 hstr'.2
    (g := { method := m, pc := pc + 4, locals := ls, stack := .ref T.heap.size :: .ref T.heap.size :: rest, locked := none }) rfl d4' _ hsteps
/-- 'throw new E("text")', the text by a wide index -/
theorem vx_throwSW {cc : ByteArray} {pc : Nat} (hexec : p.tables.exec = Jvm.exec) (hb : c.code = cc) (hl : l.stackTraces = false) {own cls text : String} {names : List String} {ik is ic mc ms sa : Nat} {A : Nat → Prop}
    (hown : s.vm.findClass own = some m.cls) (hcls : Bundle.fit cls = true) (hnames : ∀ n ∈ names, Bundle.fit n = true)
    (hk : (Cond.classLink own ik cls).before args s = true) (hini : (Cond.initialized cls).before args s = true) (hstr : vk_R own is text sa s) (hat : ∀ w ∈ vx_atS own ic cls names, w.before args s = true)
    (hgood : ∀ w ∈ Cond.classLink own ik cls :: Cond.initialized cls :: vx_atS own ic cls names, vx_ot w = true)
    (hU : vx_Zq Bundle.tN "UNASSIGNED_STACK" Bundle.steD A s s.heap) (hN : vx_Zq Bundle.tN "SUPPRESSED_SENTINEL" Bundle.listD A s s.heap) (hS : va_S A s.heap H locs) (hsize : ls.size = c.maxLocals)
    (d0 : decode cc pc = .ok (.new ik, 3)) (d3 : decode cc (pc + 3) = .ok (.dup, 1)) (d4 : decode cc (pc + 4) = .ok (.ldc_w is, 3)) (d7 : decode cc (pc + 7) = .ok (.invokespecial ic, 3)) (d10 : decode cc (pc + 10) = .ok (.athrow, 1))
    (hout : ∀ x ∈ c.exceptionTable.toList, covers x (pc + 10) = false)
    (hRframes : names.length + 3 < R.frames) (hRlocals : (rest.map fun v => v.category).sum + (13 * (names.length + 1) + 43) ≤ R.locals) (hRcells : cells + 1 ≤ R.cells) (hRslots : slots + 6 ≤ R.slots) (hlocks : meth.locks = false)
    (hx : ∀ t : State, s.vm.Alike t.vm → H.size ≤ t.heap.size → (∀ q : Nat, q < H.size → t.heap[q]? = H[q]?) → XC cls s t)
    (hf : ∀ z ∈ locs, free z.base) (hc : cells + 1 ≤ mc) (hs : slots + 6 ≤ ms) :
    W p l e R s m args below meth c H locs cells slots (vx_MQ below Qc XC args s mc ms free) (F0 m pc ls rest) := by
  intro T hT X
  have htr : e.platform.stackTraces = false := (show e.platform.stackTraces = l.stackTraces by rw [X.admits.platform]).trans hl
  have Y := vx_rebase X (R' := { frames := R.frames, locals := R.locals, cells := 1, slots := 6 }) (Nat.le_refl _) (Nat.le_refl _) hRcells hRslots
  obtain ⟨s', hA⟩ : ∃ z, z = (T.setVm s.vm).setFrames (.invoking m args :: below) := ⟨_, rfl⟩
  rw [← hA] at Y
  have hvm : s'.vm = s.vm := by rw [hA]; rfl
  have hhp : s'.heap = H := by rw [hA]; exact hT
  have hW0 : s.WarmedH s'.vm := by rw [hvm]; exact State.WarmedH.refl s
  have hat' : ∀ w ∈ vx_atS own ic cls names, w.before args s' = true := fun w hw => vx_ot_at hW0 hvm.symm (hgood w (List.mem_cons_of_mem _ (List.mem_cons_of_mem _ hw))) (hat w hw)
  have hk' : (Cond.classLink own ik cls).before args s' = true := vx_ot_at hW0 hvm.symm (hgood _ List.mem_cons_self) hk
  have hini' : (Cond.initialized cls).before args s' = true := vx_ot_at hW0 hvm.symm (hgood _ (List.mem_cons_of_mem _ List.mem_cons_self)) hini
  have hU' : vx_Zq Bundle.tN "UNASSIGNED_STACK" Bundle.steD A s' s'.heap := by rw [hhp]; exact vx_Zq.moved hW0.alike (hU.kept hS.2.1)
  have hN' : vx_Zq Bundle.tN "SUPPRESSED_SENTINEL" Bundle.listD A s' s'.heap := by rw [hhp]; exact vx_Zq.moved hW0.alike (hN.kept hS.2.1)
  have h : ∀ w ∈ Bundle.ownAtoms own ic cls names, w.before args s' = true := vx_own hat' (vx_isRefq hU'.1) (vx_isRefq hN'.1) hU'.2.word hN'.2.word
  have hown' : s'.vm.findClass own = some m.cls := by rw [hvm]; exact hown
  have hins : (Cond.instantiable cls 6).before args s' = true := h _ (by simp [Bundle.ownAtoms])
  obtain ⟨vm₁, cX, kX, hfX, hkX, -, -, X₁, st1⟩ := Y.newCold hexec (own := own) (C := cls) (index := ik) (n := 6) hown' hk' hins hini'
    (g := F0 m pc ls rest) rfl (by rw [hb]; exact d0) (Nat.le_refl _) (Nat.le_refl _)
  generalize hT1 : (T.setVm vm₁).pushCell { cls := cX, slots := kX.instanceTypes.map defaultValue, vm := .none } = T1 at X₁ st1
  have hcat : (Value.ref T.heap.size).category = 1 := rfl
  have hcellA : T1.heap[T.heap.size]? = some (freshCell cX kX) := by rw [← hT1]; exact State.heap_pushCell_size _ _
  have d3' : decode c.code (pc + 3) = .ok (.dup, 1) := by rw [hb]; exact d3
  have d4' : decode c.code (pc + 4) = .ok (.ldc_w is, 3) := by rw [hb]; exact d4
  have hstr' : vk_R own is text sa s' := vk_R.warm hW0 hstr
  obtain ⟨U, hsteps, hrun, hend, hW, hsame, ce, hce, hO⟩ := X₁.ctorThrowS hexec htr (own := own) (cls := cls) (names := names) (ic := ic) hown' hcls hnames h (fun x hx => nomatch hx) hfX hkX hcellA (by rw [hhp, hT]; exact Nat.le_refl _) (msg := .ref sa) rfl
    (g := { method := m, pc := pc + 7, locals := ls, stack := .ref sa :: .ref T.heap.size :: .ref T.heap.size :: rest, locked := none }) rfl hsize rfl rfl (rest := rest) rfl
    (by rw [hb]; exact d7) (by rw [hb]; exact d10) hout hRframes (by simp only [List.map_cons, List.sum_cons, hcat]; omega) hlocks
  obtain ⟨f1, f2⟩ := vx_frame hsame
  rw [hhp] at f1 f2
  have hWs : s.WarmedH U.vm := State.WarmedH.trans hW0 hW
  have hcl : s.vm.findClass cls = some ce.cls := by
    have h9 := hO.cls
    rw [hvm] at h9
    exact h9
  have hall : s.sameButNew ({ U with vm := s.vm } : State) locs mc ms := by
    subst hA
    obtain ⟨e1, e2⟩ := hsame
    rw [State.setFrames_setFrames] at e1
    have h2 : (T.setVm s.vm).sameButNew ({ U with vm := s.vm } : State) [] (0 + 1) (0 + 6) := ⟨e1, e2⟩
    have h3 := X.same.trans h2
    rw [List.append_nil] at h3
    exact h3.mono hc hs
  refine ⟨U, ?_, .threw T.heap.size, hrun, hend, Or.inr ⟨T.heap.size, rfl, cls, ce, locs, hx U hWs.alike f1 (fun q hq => f2 q hq (fun z hz => nomatch hz)), hce, hO.vm, hcl, hWs, hall, hf⟩⟩
  refine st1 _ ?_
  show Steps p.tables e below (T1.setTop { method := m, pc := pc + 3, locals := ls, stack := .ref T.heap.size :: rest, locked := none }) _
  jvm_step X₁.here [X₁.here.top, hexec, d3', Value.category]
  exact X₁.ldcStringW hexec (own := own) (text := text) (index := is) (a := sa) hown' hstr'.1 hstr'.2
    (g := { method := m, pc := pc + 4, locals := ls, stack := .ref T.heap.size :: .ref T.heap.size :: rest, locked := none }) rfl d4' _ hsteps
end Ends
section Bodies
variable {l : Launch}
theorem vx_ofW {y : MethodName} {ws ws' : List Cond} {rm : Room} {Pc : Array Value → State → Prop} {Qc : Array Value → State → Outcome → State → Prop} {XC : String → State → State → Prop} {mc ms : Nat} {free : Addr → Prop} {cc : ByteArray} {maxL : Nat} {ret : Option FieldType}
    (hy : plainName y.cls = true) (hw : ws = Cond.code y cc maxL ret :: ws')
    (body : ∀ p e s m args below meth c s₁, BodyLoose p l y (headSpec ws rm) cc maxL ret e s m args below meth c s₁ → c.maxLocals = maxL → (∀ x ∈ c.exceptionTable.toList, False) → Pc args s →
      W p l e (headSpec ws rm).room s m args below meth c s.heap [] 0 0 (vx_MQ below Qc XC args s mc ms free) (entryFrame m args maxL)) : vx_Met l y ws rm Pc Qc XC mc ms free := by
  refine MetFree.of_bodyS (code := cc) (maxLocals := maxL) (ret := ret) hy ?_ ?_
  · intro args s m h hn
    obtain ⟨meth, c, h1, h2, h3, h4, h5, h6, -, -⟩ := Cond.code_spec hn (atoms_spec (ws := ws) h _ (by rw [hw]; exact List.mem_cons_self))
    exact ⟨meth, c, h1, h2, h3, h4, h5, h6⟩
  · intro p e s m args below meth c s₁ B hml hP _
    have hh0 : s₁.heap = s.heap := by rw [B.state]; rfl
    have ht : ∀ x ∈ c.exceptionTable.toList, False := by
      obtain ⟨meth9, c9, h1, h2, -, -, -, -, h7, -⟩ := Cond.code_spec B.named (atoms_spec (ws := ws) B.pre _ (by rw [hw]; exact List.mem_cons_self))
      cases Option.some.inj (h1.symm.trans B.method)
      cases Option.some.inj (h2.symm.trans (Stand.of_body B).code)
      intro x hx
      rw [Array.isEmpty_iff.mp h7] at hx
      cases hx
    obtain ⟨t, a1, o, b1, b2, b3⟩ := body p e s m args below meth c s₁ B hml ht hP s₁ hh0 (Stand.of_body B)
    exact ⟨t, o, a1, b1, b2, b3⟩
/-- the table of a body with handlers -/
theorem vx_table {p : Program} {x y : MethodName} {S : Spec} {cc bytes : ByteArray} {maxL maxL' : Nat} {ret ret' : Option FieldType} {e : Env} {s s₁ : State} {m : MethodId} {args : Array Value} {below : List Frame} {meth : Method} {c : Code} {hh : List (Nat × Nat × Nat × Nat)}
    (B : BodyLoose p l y S cc maxL ret e s m args below meth c s₁) (h : (Cond.codeWith y bytes maxL' ret' hh).before args s = true) : c.exceptionTable.toList = tableOf hh := by
  obtain ⟨m9, meth9, c9, hn9, h1, h2, -, -, h6, -⟩ := Cond.codeWith_spec h
  cases Option.some.inj (hn9.symm.trans B.named)
  cases Option.some.inj (h1.symm.trans B.method)
  cases Option.some.inj (h2.symm.trans (Stand.of_body B).code)
  rw [← h6, table_eq]
end Bodies
end VXA
/-! ===== END ===== -/
/-! ===== BEGIN a static call of a method with an exception table ===== -/
section VXS
variable {p : Program} {l : Launch} {e : Env} {R : Room} {s : State} {m : MethodId} {args : Array Value} {below : List Frame} {meth : Method} {c : Code} {T : State} {H : Heap} {locs : List Loc} {cells slots : Nat}
abbrev vx_CSW (R : Room) (s : State) (args : Array Value) (own : String) (index : Nat) (y : MethodName) (bytes : ByteArray) (maxL : Nat) (ret : Option FieldType) (hh : List (Nat × Nat × Nat × Nat)) (ws : List Cond) (rm : Room) (mc ms n : Nat) : Prop :=
  (rm.cells = mc ∧ rm.slots = ms ∧ rm.frames + 1 ≤ R.frames ∧ 8 + (maxL + 11) + rm.locals ≤ R.locals ∧ (∀ w ∈ ws, ∀ (a' : Array Value) (U : State), s.WarmedH U.vm → w.before a' U = true) ∧ Cond.codeWith y bytes maxL ret hh ∈ ws) ∧
  (Cond.codeWith y bytes maxL ret hh).before args s = true ∧ (Cond.initialized y.cls).before args s = true ∧ (y.cls ≠ "java/lang/invoke/MethodHandle" ∧ y.cls ≠ "java/lang/invoke/VarHandle") ∧
  (∀ sig, parseMethodDescriptor y.desc = some sig → n = sig.parameters.length) ∧ (Cond.methodLink own index y).before args s = true ∧ (Cond.static y).before args s = true
theorem vx_cwSW {own : String} {index maxL mc ms : Nat} {y : MethodName} {bytes : ByteArray} {ret : Option FieldType} {hh : List (Nat × Nat × Nat × Nat)} {Ts ws ws' : List Cond} {rm : Room} (n : Nat) (ht : ∀ w ∈ Ts, w.before args s = true) (hT : GoodIn Ts (va_wsS own index y ws)) (hw : ws = Cond.codeWith y bytes maxL ret hh :: ws') (hrc : rm.cells = mc) (hrs : rm.slots = ms)
    (hd : y.cls ≠ "java/lang/invoke/MethodHandle" ∧ y.cls ≠ "java/lang/invoke/VarHandle" ∧ (parseMethodDescriptor y.desc).map (fun d => d.parameters.length) = some n) (hR : rm.frames + 1 ≤ R.frames ∧ 8 + (maxL + 11) + rm.locals ≤ R.locals) :
    vx_CSW R s args own index y bytes maxL ret hh ws rm mc ms n := by
  have ok : ∀ w ∈ va_wsS own index y ws, w.before args s = true := fun w h => ht w (hT w h).1
  have hG : GoodIn Ts ws := fun w h => hT w (by unfold va_wsS; exact List.mem_append_right _ h)
  have hc : Cond.codeWith y bytes maxL ret hh ∈ ws := by rw [hw]; exact List.mem_cons_self
  refine ⟨⟨hrc, hrs, hR.1, hR.2, pay_in ht hG, hc⟩, ht _ (hG _ hc).1, ok _ (by simp [va_wsS]), ⟨hd.1, hd.2.1⟩, fun sig h => ?_, ok _ (by simp [va_wsS]), ok _ (by simp [va_wsS])⟩
  have h2 := hd.2.2
  rw [h] at h2
  exact (Option.some.inj h2).symm
theorem vx_callSW (X : Stand p l e R s m args below meth c T locs cells slots) (hexec : p.tables.exec = Jvm.exec) {own : String} {index : Nat} {y : MethodName} {bytes : ByteArray} {maxL : Nat} {ret : Option FieldType} {hh : List (Nat × Nat × Nat × Nat)}
    (hown : s.vm.findClass own = some m.cls) (hlink : (Cond.methodLink own index y).before args s = true) (hstat : (Cond.static y).before args s = true) (hinit : (Cond.initialized y.cls).before args s = true)
    (hcode : (Cond.codeWith y bytes maxL ret hh).before args s = true) (hy : y.cls ≠ "java/lang/invoke/MethodHandle" ∧ y.cls ≠ "java/lang/invoke/VarHandle")
    {W9 : Nat} {Pre : Pt → Array Value → Prop} {Post : Pt → Array Value → Option Value → Pt → Prop} (hK : Back l R p e below s args y 3 W9 Pre Post)
    {g : JFrame} (hg : g.method = m) (hsize : g.locals.size = c.maxLocals) {argsL rest : List Value} (hlen : ∀ sig, parseMethodDescriptor y.desc = some sig → argsL.length = sig.parameters.length)
    (hstack : g.stack = argsL.reverse ++ rest) (hW : 2 * g.monitorRoom + (rest.map fun v => v.category).sum ≤ W9) (hdg : decode c.code g.pc = .ok (.invokestatic index, 3))
    (hpre : ∀ vm₁, s.WarmedH vm₁ → Pre ⟨T.setVm vm₁, locs, cells, slots⟩ argsL.toArray) :
    ∃ (v : Option Value) (vm₁ : Vm) (B : Pt), s.WarmedH vm₁ ∧ Stand p l e R s m args below meth c B.U B.locs B.cells B.slots ∧ Post ⟨T.setVm vm₁, locs, cells, slots⟩ argsL.toArray v B ∧
      ∀ target, Steps p.tables e below (B.U.setTop { g with pc := g.pc + 3, stack := v.toList ++ rest }) target → Steps p.tables e below (T.setTop g) target := by
  obtain ⟨mk, methM, cM, hnamed, hmethM, -, -, -, -, -, -, hsigM⟩ := Cond.codeWith_spec hcode
  have hstatic : methM.isStatic = true := Cond.static_spec hnamed hmethM hstat
  obtain ⟨kP, hkP, -⟩ := className_of_methodNamed hnamed
  have hinitP : kP.init = .initialized := Cond.initialized_spec (findClass_of_methodNamed hnamed) hkP hinit
  obtain ⟨vm₁, X₁, hstep₁⟩ := X.invokestatic hexec hown hlink hnamed hmethM hstatic hkP hinitP hy (g := g) hg (argsL := argsL) (rest := rest) (hlen _ hsigM) hstack hdg
  obtain ⟨v, B, X', hpost, hsteps⟩ := hK m meth c ⟨T.setVm vm₁, locs, cells, slots⟩ { g with stack := rest } (.invokestatic index) mk argsL.toArray X₁ hg hsize hdg hW (X₁.named hnamed) (hpre vm₁ X₁.warmed)
  exact ⟨v, vm₁, B, X₁.warmed, X', hpost, fun target h => hstep₁ _ fun acts => by rw [doInvoke_state]; exact hsteps.trans h⟩
theorem vx_runSW {y : MethodName} {bytes cc : ByteArray} {maxL nL mc ms n index : Nat} {ret : Option FieldType} {hh : List (Nat × Nat × Nat × Nat)} {ws : List Cond} {rm : Room} {Pc : Array Value → State → Prop} {Qc : Array Value → State → Outcome → State → Prop} {free : Addr → Prop} {Ts : List Cond} {own : String} {As rest : List Value} {g : JFrame}
    (S : CallFix p m c cc nL s args Ts own) (hM : Met l y ws rm Pc Qc mc ms free) (cw : vx_CSW R s args own index y bytes maxL ret hh ws rm mc ms n) (hp : PreS s H Pc As)
    (hg : g.method = m) (hn : As.length = n) (hsize : g.locals.size = nL) (hstack : g.stack = As.reverse ++ rest) (hW : 2 * g.monitorRoom + (rest.map fun v => v.category).sum ≤ 8) (hdg : decode cc g.pc = .ok (.invokestatic index, 3)) (hf : cells + mc ≤ R.cells ∧ slots + ms ≤ R.slots) :
    va_Run p l e R s m args below meth c H locs cells slots mc ms g rest (Qc As.toArray) (free) := by
  obtain ⟨⟨hrc, hrs, hfr, hlo, hws, hcw⟩, hcode, hini, hy, hlen, hl, hstt⟩ := cw
  have hK : Back l R p e below s args y 3 8 (PreOf R mc ms Pc) (PostOf Qc mc ms free) := va_backW (hh := hh) (bytes := bytes) (maxL := maxL) (ret := ret) hM hp.1 hrc hrs hfr hlo hws hcw (fun a' U hW => word_at hW (Or.inl (by first | rfl | simp [Cond.onTables, Cond.keeps, Cond.steady])) hini)
  obtain ⟨hx, hb, hml, ho, -⟩ := S
  intro T hT X
  obtain ⟨v, vm₁, ⟨U', l2, c2, s2⟩, hW₁, X', ⟨g', mk, t, L, e1, e2, hq, h1, hL, h2, h3⟩, st⟩ := vx_callSW X hx (hh := hh) (bytes := bytes) (maxL := maxL) (ret := ret) ho hl hstt hini hcode hy hK hg (hsize.trans hml.symm) (argsL := As) (rest := rest) (fun sig h => hn.trans (hlen sig h)) hstack hW (by rw [hb]; exact hdg)
    (fun vm₁ hW₁ => ⟨hf.1, hf.2, hp.2 (T.setVm vm₁) hT hW₁⟩)
  dsimp only [Pt.U, Pt.locs, Pt.cells, Pt.slots] at X' e1 e2 h1 h2 h3 st
  subst h1; subst h2; subst h3
  exact ⟨v, (T.setVm vm₁).calling g' mk As.toArray, t, U', L, hT, X', hL, e1, e2, hq, st⟩
/-- not caught here, past rows that name other classes: it goes on to the caller -/
theorem vx_outP {p : Program} {l : Launch} {e : Env} {R : Room} {s : State} {m : MethodId} {args : Array Value} {below : List Frame} {meth : Method} {c : Code} {H : Heap} {locs : List Loc} {cells slots : Nat} {free : Addr → Prop} {ls : Array Slot} {rest : List Value} {Qc : Array Value → State → Outcome → State → Prop} {XC : String → State → State → Prop}
    {pc : Nat} {own E : String} {ce : Cell} {q : Addr} {mc ms : Nat} (hown : s.vm.findClass own = some m.cls) (hlocks : meth.locks = false)
    (hpass : ∀ z ∈ c.exceptionTable.toList, covers z pc = false ∨ (z.catchType ≠ 0 ∧ ∃ nm : String, (Cond.classLink own z.catchType nm).before args s = true ∧ va_Nc E nm s)) (hcell : H[q]? = some ce) (hv : ce.vm = .none) (hcl : s.vm.findClass E = some ce.cls)
    (hx : ∀ t : State, t.heap = H → s.vm.Alike t.vm → XC E s t) (hf : ∀ z ∈ locs, free z.base) (hc : cells ≤ mc) (hs : slots ≤ ms) :
    vx_W p l e R s m args below meth c H locs cells slots (vx_MQ below Qc XC args s mc ms free) (F0 m pc ls rest) q := by
  intro T hT X
  have hpl : e.platform.magicAccessors = ({} : Platform).magicAccessors := by rw [X.admits.platform]
  obtain ⟨vm', hW', X', st⟩ := X.outThrough hlocks q (g := F0 m pc ls rest) rfl rfl rfl (cell := ce) (by rw [hT]; exact hcell) (by rw [hv]; rfl)
    (by obtain ⟨k9, h9, -⟩ := Vm.findClass_spec hcl; exact ⟨k9, h9⟩) (fun z hz => by
      rcases hpass z hz with h | ⟨hz0, nm, hl1, hn1⟩
      · exact Or.inl h
      · obtain ⟨c6, hc6, hcl6⟩ := Cond.classLink_spec hown hl1 e.platform hpl
        obtain ⟨a8, b8, h1, h2, h3⟩ := hn1
        cases Option.some.inj (h1.symm.trans hcl)
        cases Option.some.inj (h2.symm.trans hc6)
        exact Or.inr ⟨hz0, _, hcl6, h3⟩)
  obtain ⟨g₀, hfr⟩ := X'.frames_eq
  have hcell9 : ((T.setVm vm').setFrames (.throwing q :: below)).heap[q]? = some ce := by
    show T.heap[q]? = some ce
    rw [hT]; exact hcell
  have hend : Ended ((T.setVm vm').setFrames (.throwing q :: below)) below (.threw q) := State.frames_setFrames _ (State.cur_lt_of_frames hfr)
  refine ⟨(T.setVm vm').setFrames (.throwing q :: below), ?_, .threw q, X'.here.running, hend, Or.inr ⟨q, rfl, E, ce, locs, hx _ hT (X'.ends _).1.alike, hcell9, hv, hcl, (X'.ends _).1, (X'.ends _).2.mono hc hs, hf⟩⟩
  rw [X.pushThrowing_eq]
  exact st
/-- a thing of a world lies in the heap -/
theorem vx_lt {D : va_G} {cl : List vw_C} {ws : va_W} {H1 : Heap} (h : va_P D cl ws H1) {k : Nat} {q : Nat × va_E} (hk : ws[k]? = some q) : q.1 < H1.size := (h k q hk).lt
end VXS
/-! ===== END ===== -/
/-! ===== BEGIN methods with a table of their own: called by a name, returning or throwing ===== -/
section VXH
/-! vx_backW, vx_callVX, vx_callSX, vx_callVW, vx_runVW, vx_runVX, vx_runSX, vx_ofWH follow the same proofs as their sisters above (Free/Laws.lean, Shelf42/LK1.lean); vx_outP calls Shelf42/NT130.lean (outThrough). -/
section
variable {l : Launch} {R : Room} {p : Program} {e : Env} {below : List Frame} {s : State} {sargs : Array Value} {y : MethodName} {len W9 : Nat}
theorem vx_backW {ws : List Cond} {rm : Room} {Pc : Array Value → State → Prop} {Qc : Array Value → State → Outcome → State → Prop} {XC : String → State → State → Prop} {mc ms : Nat} {free : Addr → Prop} {bytes : ByteArray} {maxL : Nat} {ret : Option FieldType} {hh : List (Nat × Nat × Nat × Nat)}
    (hM : vx_Met l y ws rm Pc Qc XC mc ms free) (hblind : FrameBlind Pc) (hrc : rm.cells = mc) (hrs : rm.slots = ms)
    (hframes : rm.frames + 1 ≤ R.frames) (hlocals : W9 + (maxL + 11) + rm.locals ≤ R.locals)
    (hws : ∀ w ∈ ws, ∀ a' U, s.WarmedH U.vm → w.before a' U = true) (hcode : Cond.codeWith y bytes maxL ret hh ∈ ws) (hinit : ∀ a' U, s.WarmedH U.vm → (Cond.initialized y.cls).before a' U = true) :
    vx_Back l R p e below s sargs y len W9 (PreOf R mc ms Pc) (PostOf Qc mc ms free) (vx_Post XC mc ms free) := by
  intro m meth c A g ig mk a X hg hsize hdg hW hn hp
  have h1 : (headSpec ws rm).pre.before a A.U = true := atoms_intro fun w hw => hws w hw _ _ X.warmed
  have h2 : (Cond.codeWith y bytes maxL ret hh).before a A.U = true := hws _ hcode _ _ X.warmed
  have h3 : (Cond.initialized y.cls).before a A.U = true := hinit _ _ X.warmed
  have h4 : A.cells + (headSpec ws rm).room.cells ≤ R.cells := by rw [show (headSpec ws rm).room.cells = mc from hrc]; exact hp.1
  have h5 : A.slots + (headSpec ws rm).room.slots ≤ R.slots := by rw [show (headSpec ws rm).room.slots = ms from hrs]; exact hp.2.1
  have hPc : Pc a (A.U.calling g mk a) := hblind _ _ _ _ hp.2.2
  obtain ⟨U, Ls, c0, s0⟩ := A
  dsimp only [Pt.U, Pt.locs, Pt.cells, Pt.slots] at h1 h2 h3 h4 h5 X hn hPc ⊢
  obtain ⟨m9, methY, cY, hn9, hmY, hcY, -, hlY, -⟩ := Cond.codeWith_spec h2
  cases Option.some.inj (hn9.symm.trans hn)
  obtain ⟨kY, hkY, -⟩ := className_of_methodNamed hn
  have hinitY : kY.init = .initialized := Cond.initialized_spec (findClass_of_methodNamed hn) hkY h3
  have h : At U g.method c below := by rw [hg]; exact X.here
  have hlocals9 : W9 + (maxL + 11) + (headSpec ws rm).room.locals ≤ R.locals := hlocals
  have happ : (headSpec ws rm).appliesLoose y e.platform (U.calling g mk a) = true :=
    Spec.appliesLoose_calling (g := g) h hdg hn hkY hinitY
      (X.room_calling (g := g) (R' := (headSpec ws rm).room) hsize hmY hcY hframes (by rw [hlY]; omega) h4 h5) h1
  obtain ⟨mid, hmid⟩ := h.above
  have hfr : (U.setTop g).frames = (.java g :: mid) ++ below := by rw [State.frames_setTop' g h.top, hmid]; rfl
  obtain ⟨o, s₂, hsteps, -, hend, hq⟩ := Steps.callFree hM p X.admits X.cas X.clock (acts := []) hfr happ hPc trivial
  have hq' : vx_Q Qc XC mc ms free a (U.calling g mk a) o s₂ := hq
  rw [State.frames_setTop' g h.top] at hend
  obtain ⟨g₀, hg0⟩ := Option.isSome_iff_exists.mp h.top
  obtain ⟨r, hr⟩ := State.topJava?_eq_some.mp hg0
  have hr' : (({ U with heap := s₂.heap, slotsUsed := s₂.slotsUsed } : State).setVm s₂.vm).frames = .java g₀ :: r := hr
  rcases hq' with ⟨hqc, L, hfe, hL⟩ | ⟨q, rfl, E, ce, L, hx, hce, hcv, hcl, hW₂, hsm, hL⟩
  · obtain ⟨⟨v, rfl⟩, hW₂, e2, q2, q3, q4, q5, q6⟩ := id hfe
    have e3 : s₂ = ({ (U.calling g mk a).setFrames s₂.frames with heap := s₂.heap, slotsUsed := s₂.slotsUsed } : State).setVm s₂.vm := by
      have : s₂ = ({ s₂ with vm := (U.calling g mk a).vm } : State).setVm s₂.vm := rfl
      rw [e2] at this
      exact this
    obtain ⟨c₂, i₂, len₂, hc₂, hd₂, hf₂⟩ := hend
    have hW' : U.WarmedH s₂.vm := hW₂
    have hcc : c₂ = c := by
      have h1 : s₂.code? g.method = U.code? g.method := by
        rw [State.code?_eq, State.code?_eq, hW'.alike.method?]
      exact Option.some.inj (hc₂.symm.trans (h1.trans h.code))
    subst hcc
    have hlen : len₂ = len := by rw [hdg] at hd₂; cases hd₂; rfl
    subst hlen
    have hs₂ : s₂ = (({ U with heap := s₂.heap, slotsUsed := s₂.slotsUsed } : State).setVm s₂.vm).setTop { g with pc := g.pc + len₂, stack := v.toList ++ g.stack } := by
      refine e3.trans ?_
      rw [hf₂, State.calling_eq h.top, State.setFrames_setFrames, State.setTop_of_frames _ hr', hr]
      rfl
    have hsame : U.sameButNew ({ U with heap := s₂.heap, slotsUsed := s₂.slotsUsed } : State) L mc ms := by
      refine ⟨?_, q2, q3, q4, q5, q6⟩
      obtain ⟨t, ht, -⟩ := State.frames_cons hr
      show ({ U with heap := s₂.heap, slotsUsed := s₂.slotsUsed } : State) = { U.setFrames U.frames with heap := s₂.heap, slotsUsed := s₂.slotsUsed }
      rw [State.setFrames_self ht]
    subst hg
    refine Or.inl ⟨v, ⟨(({ U with heap := s₂.heap, slotsUsed := s₂.slotsUsed } : State).setVm s₂.vm), Ls ++ L, c0 + mc, s0 + ms⟩,
      ⟨X.admits, X.cas, X.clock, X.frames, X.room, X.hears, X.method, X.code, (X.here.setHeapUsed s₂.heap s₂.slotsUsed).setVm hW'.alike, X.tail, State.WarmedH.trans X.warmed hW', X.limits, X.bytes, X.same.trans (hsame.setVm s.vm)⟩,
      ⟨g, mk, s₂, L, rfl, rfl, hqc, rfl, hL, rfl, rfl⟩, ?_⟩
    show Steps p.tables e below _ ((({ U with heap := s₂.heap, slotsUsed := s₂.slotsUsed } : State).setVm s₂.vm).setTop { g with pc := g.pc + len₂, stack := v.toList ++ g.stack })
    rw [← hs₂]
    exact hsteps
  · obtain ⟨e2, q2, q3, q4, q5, q6⟩ := id hsm
    have e3 : s₂ = ({ (U.calling g mk a).setFrames s₂.frames with heap := s₂.heap, slotsUsed := s₂.slotsUsed } : State).setVm s₂.vm := by
      have : s₂ = ({ s₂ with vm := (U.calling g mk a).vm } : State).setVm s₂.vm := rfl
      rw [e2] at this
      exact this
    have hf₂ : s₂.frames = .throwing q :: .java g :: U.frames.tail := hend
    have hW' : U.WarmedH s₂.vm := hW₂
    have hs₂ : s₂ = ((({ U with heap := s₂.heap, slotsUsed := s₂.slotsUsed } : State).setVm s₂.vm).setTop g).pushFrame (.throwing q) := by
      refine e3.trans ?_
      rw [hf₂, State.calling_eq h.top, State.setFrames_setFrames, State.pushFrame, State.frames_setTop _ hr', State.setTop_of_frames _ hr', State.setFrames_setFrames, hr]
      rfl
    have hsame : U.sameButNew ({ U with heap := s₂.heap, slotsUsed := s₂.slotsUsed } : State) L mc ms := by
      refine ⟨?_, q2, q3, q4, q5, q6⟩
      obtain ⟨t, ht, -⟩ := State.frames_cons hr
      show ({ U with heap := s₂.heap, slotsUsed := s₂.slotsUsed } : State) = { U.setFrames U.frames with heap := s₂.heap, slotsUsed := s₂.slotsUsed }
      rw [State.setFrames_self ht]
    subst hg
    refine Or.inr ⟨q, ⟨(({ U with heap := s₂.heap, slotsUsed := s₂.slotsUsed } : State).setVm s₂.vm), Ls ++ L, c0 + mc, s0 + ms⟩,
      ⟨X.admits, X.cas, X.clock, X.frames, X.room, X.hears, X.method, X.code, (X.here.setHeapUsed s₂.heap s₂.slotsUsed).setVm hW'.alike, X.tail, State.WarmedH.trans X.warmed hW', X.limits, X.bytes, X.same.trans (hsame.setVm s.vm)⟩,
      ⟨g, mk, s₂, L, E, ce, rfl, rfl, hx, hce, hcv, hcl, rfl, hL, rfl, rfl⟩, ?_⟩
    show Steps p.tables e below _ (((({ U with heap := s₂.heap, slotsUsed := s₂.slotsUsed } : State).setVm s₂.vm).setTop g).pushFrame (.throwing q))
    rw [← hs₂]
    exact hsteps
end
variable {p : Program} {l : Launch} {e : Env} {R : Room} {s : State} {m : MethodId} {args : Array Value} {below : List Frame} {meth : Method} {c : Code} {T : State} {H : Heap} {locs : List Loc} {cells slots : Nat}
theorem vx_callVX (X : Stand p l e R s m args below meth c T locs cells slots) (hexec : p.tables.exec = Jvm.exec) {own C : String} {index : Nat} {y : MethodName} {bytes : ByteArray} {maxL : Nat} {ret : Option FieldType} {hh : List (Nat × Nat × Nat × Nat)}
    (hown : s.vm.findClass own = some m.cls) (hlink : (Cond.methodLink own index y).before args s = true) (hinst : (Cond.instanceMethod y).before args s = true) (hsel : (Cond.selects C y y).before args s = true)
    (hcode : (Cond.codeWith y bytes maxL ret hh).before args s = true) (hy : y.cls ≠ "java/lang/invoke/MethodHandle" ∧ y.cls ≠ "java/lang/invoke/VarHandle")
    {W9 : Nat} {Pre : Pt → Array Value → Prop} {Post : Pt → Array Value → Option Value → Pt → Prop} {PostX : Pt → Array Value → Addr → Pt → Prop} (hK : vx_Back l R p e below s args y 3 W9 Pre Post PostX)
    {b : Addr} {cellB : Cell} (hcell : T.heap[b]? = some cellB) (hobj : cellB.vm.isStatics = false) (hcls : s.vm.findClass C = some cellB.cls)
    {g : JFrame} (hg : g.method = m) (hsize : g.locals.size = c.maxLocals) {argsL rest : List Value} (hlen : ∀ sig, parseMethodDescriptor y.desc = some sig → argsL.length = sig.parameters.length)
    (hstack : g.stack = argsL.reverse ++ .ref b :: rest) (hW : 2 * g.monitorRoom + (rest.map fun v => v.category).sum ≤ W9) (hdg : decode c.code g.pc = .ok (.invokevirtual index, 3))
    (hpre : ∀ vm₁, s.WarmedH vm₁ → Pre ⟨T.setVm vm₁, locs, cells, slots⟩ (Value.ref b :: argsL).toArray) :
    (∃ (v : Option Value) (vm₁ : Vm) (B : Pt), s.WarmedH vm₁ ∧ Stand p l e R s m args below meth c B.U B.locs B.cells B.slots ∧ Post ⟨T.setVm vm₁, locs, cells, slots⟩ (Value.ref b :: argsL).toArray v B ∧
      ∀ target, Steps p.tables e below (B.U.setTop { g with pc := g.pc + 3, stack := v.toList ++ rest }) target → Steps p.tables e below (T.setTop g) target) ∨
    (∃ (q : Addr) (vm₁ : Vm) (B : Pt), s.WarmedH vm₁ ∧ Stand p l e R s m args below meth c B.U B.locs B.cells B.slots ∧ PostX ⟨T.setVm vm₁, locs, cells, slots⟩ (Value.ref b :: argsL).toArray q B ∧
      Steps p.tables e below (T.setTop g) ((B.U.setTop { g with stack := rest }).pushFrame (.throwing q))) := by
  obtain ⟨mk, methM, hnamed, hmethM, hstM, habM⟩ := Cond.instanceMethod_spec hinst
  obtain ⟨m8, methM', cM, hn8, hmethM', -, -, -, -, -, -, hsigM⟩ := Cond.codeWith_spec hcode
  cases Option.some.inj (hn8.symm.trans hnamed)
  cases hmethM.symm.trans hmethM'
  obtain ⟨c2, r2, m2, q1, q2, q3, q4, kP, hkP, hkPi⟩ := Cond.selects_spec hsel
  cases hcls.symm.trans q1
  cases (State.methodFound?_of_named hnamed hy).symm.trans q2
  cases hnamed.symm.trans q3
  have hselP : selectMethod e.platform s.vm cellB.cls mk = .method mk := by rw [Launch.admits_selectMethod X.admits]; exact q4
  obtain ⟨vm₁, X₁, hstep₁⟩ := X.invokevirtual hexec hown hlink hnamed hmethM hstM hkP hkPi hy (a := b) (cell := cellB) hcell
    (fun z h => by rw [h] at hobj; cases hobj) hselP hmethM habM hkP hkPi (g := g) hg (argsL := argsL) (rest := rest) (hlen _ hsigM) hstack hdg
  rcases hK m meth c ⟨T.setVm vm₁, locs, cells, slots⟩ { g with stack := rest } (.invokevirtual index) mk (Value.ref b :: argsL).toArray X₁ hg hsize hdg hW (X₁.named hnamed) (hpre vm₁ X₁.warmed) with ⟨v, B, X', hpost, hsteps⟩ | ⟨q, B, X', hpost, hsteps⟩
  · exact Or.inl ⟨v, vm₁, B, X₁.warmed, X', hpost, fun target h => hstep₁ _ fun acts => by rw [doInvoke_state]; exact hsteps.trans h⟩
  · exact Or.inr ⟨q, vm₁, B, X₁.warmed, X', hpost, hstep₁ _ fun acts => by rw [doInvoke_state]; exact hsteps⟩
theorem vx_callSX (X : Stand p l e R s m args below meth c T locs cells slots) (hexec : p.tables.exec = Jvm.exec) {own : String} {index : Nat} {y : MethodName} {bytes : ByteArray} {maxL : Nat} {ret : Option FieldType} {hh : List (Nat × Nat × Nat × Nat)}
    (hown : s.vm.findClass own = some m.cls) (hlink : (Cond.methodLink own index y).before args s = true) (hstat : (Cond.static y).before args s = true) (hinit : (Cond.initialized y.cls).before args s = true)
    (hcode : (Cond.codeWith y bytes maxL ret hh).before args s = true) (hy : y.cls ≠ "java/lang/invoke/MethodHandle" ∧ y.cls ≠ "java/lang/invoke/VarHandle")
    {W9 : Nat} {Pre : Pt → Array Value → Prop} {Post : Pt → Array Value → Option Value → Pt → Prop} {PostX : Pt → Array Value → Addr → Pt → Prop} (hK : vx_Back l R p e below s args y 3 W9 Pre Post PostX)
    {g : JFrame} (hg : g.method = m) (hsize : g.locals.size = c.maxLocals) {argsL rest : List Value} (hlen : ∀ sig, parseMethodDescriptor y.desc = some sig → argsL.length = sig.parameters.length)
    (hstack : g.stack = argsL.reverse ++ rest) (hW : 2 * g.monitorRoom + (rest.map fun v => v.category).sum ≤ W9) (hdg : decode c.code g.pc = .ok (.invokestatic index, 3))
    (hpre : ∀ vm₁, s.WarmedH vm₁ → Pre ⟨T.setVm vm₁, locs, cells, slots⟩ argsL.toArray) :
    (∃ (v : Option Value) (vm₁ : Vm) (B : Pt), s.WarmedH vm₁ ∧ Stand p l e R s m args below meth c B.U B.locs B.cells B.slots ∧ Post ⟨T.setVm vm₁, locs, cells, slots⟩ argsL.toArray v B ∧
      ∀ target, Steps p.tables e below (B.U.setTop { g with pc := g.pc + 3, stack := v.toList ++ rest }) target → Steps p.tables e below (T.setTop g) target) ∨
    (∃ (q : Addr) (vm₁ : Vm) (B : Pt), s.WarmedH vm₁ ∧ Stand p l e R s m args below meth c B.U B.locs B.cells B.slots ∧ PostX ⟨T.setVm vm₁, locs, cells, slots⟩ argsL.toArray q B ∧
      Steps p.tables e below (T.setTop g) ((B.U.setTop { g with stack := rest }).pushFrame (.throwing q))) := by
  obtain ⟨mk, methM, cM, hnamed, hmethM, -, -, -, -, -, -, hsigM⟩ := Cond.codeWith_spec hcode
  have hstatic : methM.isStatic = true := Cond.static_spec hnamed hmethM hstat
  obtain ⟨kP, hkP, -⟩ := className_of_methodNamed hnamed
  have hinitP : kP.init = .initialized := Cond.initialized_spec (findClass_of_methodNamed hnamed) hkP hinit
  obtain ⟨vm₁, X₁, hstep₁⟩ := X.invokestatic hexec hown hlink hnamed hmethM hstatic hkP hinitP hy (g := g) hg (argsL := argsL) (rest := rest) (hlen _ hsigM) hstack hdg
  rcases hK m meth c ⟨T.setVm vm₁, locs, cells, slots⟩ { g with stack := rest } (.invokestatic index) mk argsL.toArray X₁ hg hsize hdg hW (X₁.named hnamed) (hpre vm₁ X₁.warmed) with ⟨v, B, X', hpost, hsteps⟩ | ⟨q, B, X', hpost, hsteps⟩
  · exact Or.inl ⟨v, vm₁, B, X₁.warmed, X', hpost, fun target h => hstep₁ _ fun acts => by rw [doInvoke_state]; exact hsteps.trans h⟩
  · exact Or.inr ⟨q, vm₁, B, X₁.warmed, X', hpost, hstep₁ _ fun acts => by rw [doInvoke_state]; exact hsteps⟩
theorem vx_callVW (X : Stand p l e R s m args below meth c T locs cells slots) (hexec : p.tables.exec = Jvm.exec) {own C : String} {index : Nat} {y : MethodName} {bytes : ByteArray} {maxL : Nat} {ret : Option FieldType} {hh : List (Nat × Nat × Nat × Nat)}
    (hown : s.vm.findClass own = some m.cls) (hlink : (Cond.methodLink own index y).before args s = true) (hinst : (Cond.instanceMethod y).before args s = true) (hsel : (Cond.selects C y y).before args s = true)
    (hcode : (Cond.codeWith y bytes maxL ret hh).before args s = true) (hy : y.cls ≠ "java/lang/invoke/MethodHandle" ∧ y.cls ≠ "java/lang/invoke/VarHandle")
    {W9 : Nat} {Pre : Pt → Array Value → Prop} {Post : Pt → Array Value → Option Value → Pt → Prop} (hK : Back l R p e below s args y 3 W9 Pre Post)
    {b : Addr} {cellB : Cell} (hcell : T.heap[b]? = some cellB) (hobj : cellB.vm.isStatics = false) (hcls : s.vm.findClass C = some cellB.cls)
    {g : JFrame} (hg : g.method = m) (hsize : g.locals.size = c.maxLocals) {argsL rest : List Value} (hlen : ∀ sig, parseMethodDescriptor y.desc = some sig → argsL.length = sig.parameters.length)
    (hstack : g.stack = argsL.reverse ++ .ref b :: rest) (hW : 2 * g.monitorRoom + (rest.map fun v => v.category).sum ≤ W9) (hdg : decode c.code g.pc = .ok (.invokevirtual index, 3))
    (hpre : ∀ vm₁, s.WarmedH vm₁ → Pre ⟨T.setVm vm₁, locs, cells, slots⟩ (Value.ref b :: argsL).toArray) :
    ∃ (v : Option Value) (vm₁ : Vm) (B : Pt), s.WarmedH vm₁ ∧ Stand p l e R s m args below meth c B.U B.locs B.cells B.slots ∧ Post ⟨T.setVm vm₁, locs, cells, slots⟩ (Value.ref b :: argsL).toArray v B ∧
      ∀ target, Steps p.tables e below (B.U.setTop { g with pc := g.pc + 3, stack := v.toList ++ rest }) target → Steps p.tables e below (T.setTop g) target := by
  obtain ⟨mk, methM, hnamed, hmethM, hstM, habM⟩ := Cond.instanceMethod_spec hinst
  obtain ⟨m8, methM', cM, hn8, hmethM', -, -, -, -, -, -, hsigM⟩ := Cond.codeWith_spec hcode
  cases Option.some.inj (hn8.symm.trans hnamed)
  cases hmethM.symm.trans hmethM'
  obtain ⟨c2, r2, m2, q1, q2, q3, q4, kP, hkP, hkPi⟩ := Cond.selects_spec hsel
  cases hcls.symm.trans q1
  cases (State.methodFound?_of_named hnamed hy).symm.trans q2
  cases hnamed.symm.trans q3
  have hselP : selectMethod e.platform s.vm cellB.cls mk = .method mk := by rw [Launch.admits_selectMethod X.admits]; exact q4
  obtain ⟨vm₁, X₁, hstep₁⟩ := X.invokevirtual hexec hown hlink hnamed hmethM hstM hkP hkPi hy (a := b) (cell := cellB) hcell
    (fun z h => by rw [h] at hobj; cases hobj) hselP hmethM habM hkP hkPi (g := g) hg (argsL := argsL) (rest := rest) (hlen _ hsigM) hstack hdg
  obtain ⟨v, B, X', hpost, hsteps⟩ := hK m meth c ⟨T.setVm vm₁, locs, cells, slots⟩ { g with stack := rest } (.invokevirtual index) mk (Value.ref b :: argsL).toArray X₁ hg hsize hdg hW (X₁.named hnamed) (hpre vm₁ X₁.warmed)
  exact ⟨v, vm₁, B, X₁.warmed, X', hpost, fun target h => hstep₁ _ fun acts => by rw [doInvoke_state]; exact hsteps.trans h⟩
abbrev vx_CVW (R : Room) (s : State) (args : Array Value) (own C : String) (index : Nat) (y : MethodName) (bytes : ByteArray) (maxL : Nat) (ret : Option FieldType) (hh : List (Nat × Nat × Nat × Nat)) (ws : List Cond) (rm : Room) (mc ms n : Nat) : Prop :=
  (rm.cells = mc ∧ rm.slots = ms ∧ rm.frames + 1 ≤ R.frames ∧ 8 + (maxL + 11) + rm.locals ≤ R.locals ∧ (∀ w ∈ ws, ∀ (a' : Array Value) (U : State), s.WarmedH U.vm → w.before a' U = true) ∧ Cond.codeWith y bytes maxL ret hh ∈ ws) ∧
  (Cond.codeWith y bytes maxL ret hh).before args s = true ∧ (Cond.initialized y.cls).before args s = true ∧ (y.cls ≠ "java/lang/invoke/MethodHandle" ∧ y.cls ≠ "java/lang/invoke/VarHandle") ∧
  (∀ sig, parseMethodDescriptor y.desc = some sig → n = sig.parameters.length) ∧ (Cond.methodLink own index y).before args s = true ∧ (Cond.instanceMethod y).before args s = true ∧ (Cond.selects C y y).before args s = true
theorem vx_cwVW {own C : String} {index maxL mc ms : Nat} {y : MethodName} {bytes : ByteArray} {ret : Option FieldType} {hh : List (Nat × Nat × Nat × Nat)} {Ts ws ws' : List Cond} {rm : Room} (n : Nat) (ht : ∀ w ∈ Ts, w.before args s = true) (hT : GoodIn Ts (wsV own index C y ws)) (hw : ws = Cond.codeWith y bytes maxL ret hh :: ws') (hrc : rm.cells = mc) (hrs : rm.slots = ms)
    (hd : y.cls = C ∧ y.cls ≠ "java/lang/invoke/MethodHandle" ∧ y.cls ≠ "java/lang/invoke/VarHandle" ∧ (parseMethodDescriptor y.desc).map (fun d => d.parameters.length) = some n) (hR : rm.frames + 1 ≤ R.frames ∧ 8 + (maxL + 11) + rm.locals ≤ R.locals) :
    vx_CVW R s args own C index y bytes maxL ret hh ws rm mc ms n := by
  obtain ⟨hC, hd⟩ := hd
  subst hC
  have ok : ∀ w ∈ wsV own index y.cls y ws, w.before args s = true := fun w h => ht w (hT w h).1
  have hG : GoodIn Ts ws := fun w h => hT w (by unfold wsV; exact List.mem_append_right _ h)
  have hc : Cond.codeWith y bytes maxL ret hh ∈ ws := by rw [hw]; exact List.mem_cons_self
  refine ⟨⟨hrc, hrs, hR.1, hR.2, pay_in ht hG, hc⟩, ht _ (hG _ hc).1, ok _ (by simp [wsV]), ⟨hd.1, hd.2.1⟩, fun sig h => ?_, ok _ (by simp [wsV]), ok _ (by simp [wsV]), ok _ (by simp [wsV])⟩
  have h2 := hd.2.2
  rw [h] at h2
  exact (Option.some.inj h2).symm
theorem vx_runVW {y : MethodName} {bytes cc : ByteArray} {maxL nL mc ms n index : Nat} {ret : Option FieldType} {hh : List (Nat × Nat × Nat × Nat)} {ws : List Cond} {rm : Room} {Pc : Array Value → State → Prop} {Qc : Array Value → State → Outcome → State → Prop} {free : Addr → Prop} {Ts : List Cond} {own C : String} {b : Addr} {As rest : List Value} {g : JFrame}
    (S : CallFix p m c cc nL s args Ts own) (hM : Met l y ws rm Pc Qc mc ms free) (cw : vx_CVW R s args own C index y bytes maxL ret hh ws rm mc ms n) (hp : PreV s H C b Pc As)
    (hg : g.method = m) (hn : As.length = n) (hsize : g.locals.size = nL) (hstack : g.stack = As.reverse ++ .ref b :: rest) (hW : 2 * g.monitorRoom + (rest.map fun v => v.category).sum ≤ 8) (hdg : decode cc g.pc = .ok (.invokevirtual index, 3)) (hf : cells + mc ≤ R.cells ∧ slots + ms ≤ R.slots) :
    va_Run p l e R s m args below meth c H locs cells slots mc ms g rest (Qc (Value.ref b :: As).toArray) free := by
  obtain ⟨⟨hrc, hrs, hfr, hlo, hws, hcw⟩, hcode, hini, hy, hlen, hl, hin, hse⟩ := cw
  have hK : Back l R p e below s args y 3 8 (PreOf R mc ms Pc) (PostOf Qc mc ms free) := va_backW (hh := hh) (bytes := bytes) (maxL := maxL) (ret := ret) hM hp.1 hrc hrs hfr hlo hws hcw (fun a' U hW => word_at hW (Or.inl (by first | rfl | simp [Cond.onTables, Cond.keeps, Cond.steady])) hini)
  obtain ⟨hx, hb, hml, ho, -⟩ := S
  obtain ⟨-, ⟨cellB, hcB, hoB, hclB⟩, hPc⟩ := hp
  intro T hT X
  obtain ⟨v, vm₁, ⟨U', l2, c2, s2⟩, hW₁, X', ⟨g', mk, t, L, e1, e2, hq, h1, hL, h2, h3⟩, st⟩ := vx_callVW X hx (C := C) (hh := hh) (bytes := bytes) (maxL := maxL) (ret := ret) ho hl hin hse hcode hy hK (by rw [hT]; exact hcB) hoB hclB hg (hsize.trans hml.symm) (argsL := As) (rest := rest) (fun sig h => hn.trans (hlen sig h)) hstack hW (by rw [hb]; exact hdg)
    (fun vm₁ hW₁ => ⟨hf.1, hf.2, hPc (T.setVm vm₁) hT hW₁⟩)
  dsimp only [Pt.U, Pt.locs, Pt.cells, Pt.slots] at X' e1 e2 h1 h2 h3 st
  subst h1; subst h2; subst h3
  exact ⟨v, (T.setVm vm₁).calling g' mk (Value.ref b :: As).toArray, t, U', L, hT, X', hL, e1, e2, hq, st⟩
section
variable {y : MethodName} {bytes cc : ByteArray} {maxL nL mc ms n index : Nat} {ret : Option FieldType} {ws : List Cond} {rm : Room} {Pc : Array Value → State → Prop} {Qc : Array Value → State → Outcome → State → Prop} {XC : String → State → State → Prop} {free : Addr → Prop} {Ts : List Cond} {own C : String} {b : Addr} {As rest : List Value} {g : JFrame}
theorem vx_runVX {hh : List (Nat × Nat × Nat × Nat)} (S : CallFix p m c cc nL s args Ts own) (hM : vx_Met l y ws rm Pc Qc XC mc ms free) (cw : vx_CVW R s args own C index y bytes maxL ret hh ws rm mc ms n) (hp : PreV s H C b Pc As)
    (hg : g.method = m) (hn : As.length = n) (hsize : g.locals.size = nL) (hstack : g.stack = As.reverse ++ .ref b :: rest) (hW : 2 * g.monitorRoom + (rest.map fun v => v.category).sum ≤ 8) (hdg : decode cc g.pc = .ok (.invokevirtual index, 3)) (hf : cells + mc ≤ R.cells ∧ slots + ms ≤ R.slots) :
    vx_Run p l e R s m args below meth c H locs cells slots mc ms g rest (Qc (Value.ref b :: As).toArray) XC free := by
  obtain ⟨⟨hrc, hrs, hfr, hlo, hws, hcw⟩, hcode, hini, hy, hlen, hl, hin, hse⟩ := cw
  have hK : vx_Back l R p e below s args y 3 8 (PreOf R mc ms Pc) (PostOf Qc mc ms free) (vx_Post XC mc ms free) := vx_backW (hh := hh) (bytes := bytes) (maxL := maxL) (ret := ret) hM hp.1 hrc hrs hfr hlo hws hcw (fun a' U hW => word_at hW (Or.inl (by first | rfl | simp [Cond.onTables, Cond.keeps, Cond.steady])) hini)
  obtain ⟨hx, hb, hml, ho, -⟩ := S
  obtain ⟨-, ⟨cellB, hcB, hoB, hclB⟩, hPc⟩ := hp
  intro T hT X
  rcases vx_callVX X hx (C := C) (hh := hh) (bytes := bytes) (maxL := maxL) (ret := ret) ho hl hin hse hcode hy hK (by rw [hT]; exact hcB) hoB hclB hg (hsize.trans hml.symm) (argsL := As) (rest := rest) (fun sig h => hn.trans (hlen sig h)) hstack hW (by rw [hb]; exact hdg)
    (fun vm₁ hW₁ => ⟨hf.1, hf.2, hPc (T.setVm vm₁) hT hW₁⟩) with ⟨v, vm₁, ⟨U', l2, c2, s2⟩, hW₁, X', ⟨g', mk, t, L, e1, e2, hq, h1, hL, h2, h3⟩, st⟩ | ⟨q, vm₁, ⟨U', l2, c2, s2⟩, hW₁, X', ⟨g', mk, t, L, E, ce, e1, e2, hq, hce, hcv, hcl, h1, hL, h2, h3⟩, st⟩
  · dsimp only [Pt.U, Pt.locs, Pt.cells, Pt.slots] at X' e1 e2 h1 h2 h3 st
    subst h1; subst h2; subst h3
    exact Or.inl ⟨v, (T.setVm vm₁).calling g' mk (Value.ref b :: As).toArray, t, U', L, hT, X', hL, e1, e2, hq, st⟩
  · dsimp only [Pt.U, Pt.locs, Pt.cells, Pt.slots] at X' e1 e2 h1 h2 h3 st hcl
    subst h1; subst h2; subst h3
    exact Or.inr ⟨q, (T.setVm vm₁).calling g' mk (Value.ref b :: As).toArray, t, U', L, E, ce, hT, X', hL, e1, e2, hq, hce, hcv, vx_cls hW₁ hcl, st⟩
theorem vx_runSX {hh : List (Nat × Nat × Nat × Nat)} (S : CallFix p m c cc nL s args Ts own) (hM : vx_Met l y ws rm Pc Qc XC mc ms free) (cw : vx_CSW R s args own index y bytes maxL ret hh ws rm mc ms n) (hp : PreS s H Pc As)
    (hg : g.method = m) (hn : As.length = n) (hsize : g.locals.size = nL) (hstack : g.stack = As.reverse ++ rest) (hW : 2 * g.monitorRoom + (rest.map fun v => v.category).sum ≤ 8) (hdg : decode cc g.pc = .ok (.invokestatic index, 3)) (hf : cells + mc ≤ R.cells ∧ slots + ms ≤ R.slots) :
    vx_Run p l e R s m args below meth c H locs cells slots mc ms g rest (Qc As.toArray) XC free := by
  obtain ⟨⟨hrc, hrs, hfr, hlo, hws, hcw⟩, hcode, hini, hy, hlen, hl, hstt⟩ := cw
  have hK : vx_Back l R p e below s args y 3 8 (PreOf R mc ms Pc) (PostOf Qc mc ms free) (vx_Post XC mc ms free) := vx_backW (hh := hh) (bytes := bytes) (maxL := maxL) (ret := ret) hM hp.1 hrc hrs hfr hlo hws hcw (fun a' U hW => word_at hW (Or.inl (by first | rfl | simp [Cond.onTables, Cond.keeps, Cond.steady])) hini)
  obtain ⟨hx, hb, hml, ho, -⟩ := S
  intro T hT X
  rcases vx_callSX X hx (hh := hh) (bytes := bytes) (maxL := maxL) (ret := ret) ho hl hstt hini hcode hy hK hg (hsize.trans hml.symm) (argsL := As) (rest := rest) (fun sig h => hn.trans (hlen sig h)) hstack hW (by rw [hb]; exact hdg)
    (fun vm₁ hW₁ => ⟨hf.1, hf.2, hp.2 (T.setVm vm₁) hT hW₁⟩) with ⟨v, vm₁, ⟨U', l2, c2, s2⟩, hW₁, X', ⟨g', mk, t, L, e1, e2, hq, h1, hL, h2, h3⟩, st⟩ | ⟨q, vm₁, ⟨U', l2, c2, s2⟩, hW₁, X', ⟨g', mk, t, L, E, ce, e1, e2, hq, hce, hcv, hcl, h1, hL, h2, h3⟩, st⟩
  · dsimp only [Pt.U, Pt.locs, Pt.cells, Pt.slots] at X' e1 e2 h1 h2 h3 st
    subst h1; subst h2; subst h3
    exact Or.inl ⟨v, (T.setVm vm₁).calling g' mk As.toArray, t, U', L, hT, X', hL, e1, e2, hq, st⟩
  · dsimp only [Pt.U, Pt.locs, Pt.cells, Pt.slots] at X' e1 e2 h1 h2 h3 st hcl
    subst h1; subst h2; subst h3
    exact Or.inr ⟨q, (T.setVm vm₁).calling g' mk As.toArray, t, U', L, E, ce, hT, X', hL, e1, e2, hq, hce, hcv, vx_cls hW₁ hcl, st⟩
end
end VXH
theorem vx_ofWH {l : Launch} {y : MethodName} {ws ws' : List Cond} {rm : Room} {Pc : Array Value → State → Prop} {Qc : Array Value → State → Outcome → State → Prop} {XC : String → State → State → Prop} {mc ms : Nat} {free : Addr → Prop} {cc : ByteArray} {maxL : Nat} {ret : Option FieldType} {hh : List (Nat × Nat × Nat × Nat)}
    (hy : plainName y.cls = true) (hw : ws = Cond.codeWith y cc maxL ret hh :: ws')
    (body : ∀ p e s m args below meth c s₁, BodyLoose p l y (headSpec ws rm) cc maxL ret e s m args below meth c s₁ → c.maxLocals = maxL → Pc args s →
      W p l e (headSpec ws rm).room s m args below meth c s.heap [] 0 0 (vx_MQ below Qc XC args s mc ms free) (entryFrame m args maxL)) : vx_Met l y ws rm Pc Qc XC mc ms free := by
  refine MetFree.of_bodyS (code := cc) (maxLocals := maxL) (ret := ret) hy ?_ ?_
  · intro args s m h hn
    obtain ⟨m9, meth, c, hn9, h1, h2, h3, h4, -, h5, h6, -⟩ := Cond.codeWith_spec (atoms_spec (ws := ws) h _ (by rw [hw]; exact List.mem_cons_self))
    cases hn.symm.trans hn9
    exact ⟨meth, c, h1, h2, h3, h4, h5, h6⟩
  · intro p e s m args below meth c s₁ B hml hP _
    have hh0 : s₁.heap = s.heap := by rw [B.state]; rfl
    obtain ⟨t, a1, o, b1, b2, b3⟩ := body p e s m args below meth c s₁ B hml hP s₁ hh0 (Stand.of_body B)
    exact ⟨t, o, a1, b1, b2, b3⟩
/-! ===== END ===== -/

/-! ===== BEGIN what the machine throws by itself, no traces kept ===== -/
section VXM
set_option maxHeartbeats 1000000 in
/-- the machine throws cls with the message text, no traces kept: from its note over the frame g to 'throwing' over the same frame (follows the proofs of Stand.vmThrowsMessage, Shelf/KitTracedVmS.lean, and Stand.throwsMessageColdBareV, StandMessageColdV.lean, without the step out of the frame) -/
theorem vx_vmAt {p : Program} {l : Launch} {e : Env} {R : Room} {s : State} {m₀ : MethodId} {args : Array Value} {below : List Frame} {meth : Method} {c : Code} {W : State} {locs : List Loc} {cells slots : Nat}
    (X : Stand p l e R s m₀ args below meth c W locs cells slots) (hexec : p.tables.exec = Jvm.exec) (htr : e.platform.stackTraces = false) {cls : String} {names : List String} {text : String}
    (hcls : Bundle.fit cls = true) (hnames : ∀ n ∈ names, Bundle.fit n = true) (hsoe : (cls == "java/lang/StackOverflowError") = false) (hoom : (cls == "java/lang/OutOfMemoryError") = false)
    (h : ∀ a ∈ Bundle.messageArmAtoms cls names, a.before args s = true)
    (hlocs : ∀ x ∈ locs, ∀ cell, s.heap[x.base]? = some cell → cell.vm.isStatics = false)
    (htext : (text == notModelled) = false) (hlimit : ¬ (stringBytes (stringToUtf16 text)).size > e.platform.arrayLengthLimit) (hheap : ¬ (stringBytes (stringToUtf16 text)).size * componentBytes .byte > e.platform.maxHeapBytes)
    {g : JFrame} (hg : g.method = m₀) (hsize : g.locals.size = c.maxLocals)
    (hRframes : names.length + 4 < R.frames) (hRlocals : 2 * g.monitorRoom + (g.stack.map fun v => v.category).sum + 10240 ≤ R.locals) (hshort : 13 * names.length + 55 ≤ 10240)
    (hRcells : cells + 3 ≤ R.cells) (hRslots : slots + ((stringBytes (stringToUtf16 text)).size + 4 + 6) ≤ R.slots) (hlocks : meth.locks = false) :
    ∃ (S : State) (q : Addr) (ce : Cell), (∀ target, Steps p.tables e below ((S.setTop g).pushFrame (.throwing q)) target → Steps p.tables e below ((W.setTop g).pushFrame (.throwNew cls (some text) none)) target) ∧
      Stand p l e R s m₀ args below meth c S locs (cells + 3) (slots + ((stringBytes (stringToUtf16 text)).size + 4 + 6)) ∧ S.heap[q]? = some ce ∧ s.vm.findClass cls = some ce.cls ∧ ce.vm = .none := by
  have howns : e.platform.frameOwnsMonitors = true := by rw [X.admits.platform]
  have hfin : e.platform.finalization = false := by rw [X.admits.platform]
  have hpl : e.platform.magicAccessors = ({} : Platform).magicAccessors := by rw [X.admits.platform]
  have a : ∀ x, x ∈ Bundle.messageArmAtoms cls names → x.holds args s none s [] = true := fun x hx => h x hx
  obtain ⟨T, Z0, L, -, Y⟩ := ThrowableC.of_atoms (args := args) howns hfin hpl (fun x hx => h x (by simp [Bundle.messageArmAtoms, hx]))
  obtain ⟨Z, M, LZ, LM, hnZ⟩ := Init0T.ofS_atoms (args := args) hpl L Y (fun x hx => h x (by simp [Bundle.messageArmAtoms, hx]))
  obtain ⟨P1, Ps, hlen, L1, hL, hP1m, hlink1, hlink⟩ := Bundle.chainS (args := args) hpl hnZ names cls hcls hnames (fun x hx => h x (by simp [Bundle.messageArmAtoms, hx]))
  obtain ⟨Zs, LZs, hn4, hfitv, hfitc⟩ := StringT.of_atoms (args := args) (fun x hx => h x (by simp [Bundle.messageArmAtoms, hx]))
  have hfound : s.vm.findClass cls = some P1.m.cls := findClass_of_methodNamed hP1m
  obtain ⟨c1, kX, hc1, hk, hord, -, -, hn6⟩ := Cond.instantiable_spec (a (.instantiable cls 6) (by simp [Bundle.messageArmAtoms]))
  cases Option.some.inj (hc1.symm.trans hfound)
  have hinit := Cond.initialized_spec hfound hk (a (.initialized cls) (by simp [Bundle.messageArmAtoms]))
  have hctor : kX.findMethod "<init>" "(Ljava/lang/String;)V" = some P1.m.idx := findMethod_of_methodNamed hP1m hk
  have hsel0 : selectMethod e.platform s.vm P1.m.cls T.fill0 = .method T.fill0 := by
    obtain ⟨c2, r2, m2, q1, q2, q3, q4, -⟩ := Cond.selects_spec (a (.selects cls Bundle.tFill0 Bundle.tFill0) (by simp [Bundle.messageArmAtoms]))
    cases Option.some.inj (q1.symm.trans hfound)
    cases Option.some.inj (q2.symm.trans (State.methodFound?_of_named Y.fill0 (by decide)))
    cases Option.some.inj (q3.symm.trans Y.fill0)
    rw [Launch.admits_selectMethod X.admits]; exact q4
  have hselF : selectMethod e.platform s.vm P1.m.cls T.fill = .method T.fill := by
    obtain ⟨c2, r2, m2, q1, q2, q3, q4, -⟩ := Cond.selects_spec (a (.selects cls Bundle.tFill Bundle.tFill) (by simp [Bundle.messageArmAtoms]))
    cases Option.some.inj (q1.symm.trans hfound)
    cases Option.some.inj (q2.symm.trans (State.methodFound?_of_named Y.fill (by decide)))
    cases Option.some.inj (q3.symm.trans Y.fill)
    rw [Launch.admits_selectMethod X.admits]; exact q4
  obtain ⟨cellS0, hcS0, hiss⟩ := Y.statics
  obtain ⟨u0, hu0⟩ := Cond.staticRefV Y.unassigned L.unassignedStatic L.statics hcS0 hiss (a (.isRef (.static Bundle.tN "UNASSIGNED_STACK" Bundle.steD)) (by simp [Bundle.messageArmAtoms]))
  obtain ⟨sen, hsen⟩ := Cond.staticRefV Y.sentinel L.sentinelStatic L.statics hcS0 hiss (a (.isRef (.static Bundle.tN "SUPPRESSED_SENTINEL" Bundle.listD)) (by simp [Bundle.messageArmAtoms]))
  obtain ⟨ci198, i198, fB, hk198, hg198, ha198, hsB, -, hnB, htB, hffB⟩ := Cond.ownField (t := .object "java/lang/Object") Y.found L.cls (by decide +kernel) (a (.fieldLink Bundle.tN 198 Bundle.tN "backtrace" "Ljava/lang/Object;") (by simp [Bundle.messageArmAtoms])) (a (.lays Bundle.tN Bundle.tN "backtrace" "Ljava/lang/Object;") (by simp [Bundle.messageArmAtoms])) e.platform hpl
  obtain ⟨cellS, hcS', heS, -, hkeep⟩ := X.same.2.2.2.2.2 T.aS cellS0 hcS0
  have hcellS : W.heap[T.aS]? = some cellS := hcS'
  have hout' : ∀ i, (⟨T.aS, i⟩ : Loc) ∉ locs := fun i hmem => by
    have := hlocs _ hmem cellS0 hcS0
    rw [hiss] at this; cases this
  have hknownS : cellS.vm ≠ .unknown := by
    rw [heS]; intro hu
    rw [show cellS0.vm = .unknown from hu] at hiss
    cases hiss
  have hvU : cellS.slots[T.fUnassigned.slot]? = some u0.v := by rw [hkeep _ (hout' _)]; exact hu0
  have hvSen : cellS.slots[T.fSentinel.slot]? = some sen.v := by rw [hkeep _ (hout' _)]; exact hsen
  obtain ⟨iM, hffM⟩ := Y.msg
  obtain ⟨tyC, dC, hdC, hdnC⟩ := Cond.laysAt hfound hk Y.cause (a (.lays cls Bundle.tN "cause" "Ljava/lang/Throwable;") (by simp [Bundle.messageArmAtoms]))
  obtain ⟨tyS, dS, hdS, hdnS⟩ := Cond.laysAt hfound hk Y.stack (a (.lays cls Bundle.tN "stackTrace" Bundle.steD) (by simp [Bundle.messageArmAtoms]))
  obtain ⟨tyP, dP, hdP, hdnP⟩ := Cond.laysAt hfound hk Y.supp (a (.lays cls Bundle.tN "suppressedExceptions" Bundle.listD) (by simp [Bundle.messageArmAtoms]))
  obtain ⟨tyM, dM, hdM, hdnM⟩ := Cond.laysAt hfound hk hffM (a (.lays cls Bundle.tN "detailMessage" "Ljava/lang/String;") (by simp [Bundle.messageArmAtoms]))
  obtain ⟨tyB, dB, hdB, hdnB⟩ := Cond.laysAt hfound hk hffB (a (.lays cls Bundle.tN "backtrace" "Ljava/lang/Object;") (by simp [Bundle.messageArmAtoms]))
  have bC := Cond.laysApart hdB hdC hdnB hdnC (by rw [hnB, Y.causeName]; decide)
  have bS := Cond.laysApart hdB hdS hdnB hdnS (by rw [hnB, Y.stackName]; decide)
  have bP := Cond.laysApart hdB hdP hdnB hdnP (by rw [hnB, Y.suppName]; decide)
  have hbk : ((preparedCellV T.toThrowableT (freshCell P1.m.cls kX) (W.heap.size + 2) u0 sen).withEntry W.cur).slots[fB.slot]? = some .null := by
    have := fresh_default (c := P1.m.cls) tyB
    rw [htB] at this
    simpa [preparedCellV, Cell.setSlot, Cell.withEntry, Array.getElem?_setIfInBounds, bC, bS, bP, bC.symm, bS.symm, bP.symm, defaultValue] using this
  have tkC := Takes.of_laid (v := .ref (W.heap.size + 2)) hk hord tyC (by rw [Y.causeType]; rfl)
  have tkS := Takes.of_laid (v := u0.v) hk hord tyS (by rw [Y.stackType]; exact fits_refV_array _ u0)
  have tkP := Takes.of_laid (v := sen.v) hk hord tyP (by rw [Y.suppType]; exact fits_refV_object _ sen)
  have tkM := Takes.of_laid (v := .ref (W.heap.size + 1)) hk hord tyM (by rw [Y.msgType]; rfl)
  have hskip : SkipFacts T e.platform s (fun u => u) u0 ((preparedCellV T.toThrowableT (freshCell P1.m.cls kX) (W.heap.size + 2) u0 sen).withEntry W.cur) := ⟨{ ci198 := ci198, i198 := i198, fBack := fB }, ⟨hk198, hg198, ha198, hsB⟩, hbk, fun _ _ => rfl⟩
  have h0 : At W g.method c below := by rw [hg]; exact X.here
  obtain ⟨hbeyond, hfreeW⟩ := X.vmMayThrow hsize (.throwNew cls (some text) none) (fun f hf => by cases hf) rfl hRlocals
  have hfr' : W.frames.length + Ps.length + 4 < (e.platform.stackLimits W.me).1 := by have := X.framesAbove hRframes; omega
  have hwd' : (stackUse (.java g :: W.frames.tail)).2 + 13 * Ps.length + 55 ≤ (e.platform.stackLimits W.me).2 := by have := X.stackAbove hsize (K := 13 * Ps.length + 55) (by omega); omega
  have hslots : W.slotsUsed + (stringBytes (stringToUtf16 text)).size + Zs.kS.instanceTypes.size + kX.instanceTypes.size ≤ e.platform.maxSlots := by
    have := X.slotsAbove hRslots
    rw [hn4, hn6]
    omega
  obtain ⟨vm', hW', st⟩ := Steps.vmThrowsMessageColdByV p (s₀ := s) (S := W) (g := g) h0 hexec T L Z LZ M LM X.warmed (t := W.cur) rfl Zs LZs P1 L1 Ps hL hlink1 hlink hsoe hoom hfound hk hinit hord hctor
    (Launch.admits_hotImplicitExceptions X.admits) hbeyond hfreeW htext hlimit hheap (X.cellsAbove hRcells) hslots (hfitv _) (hfitc _)
    (Nn := fun u => u) heapOnly_id (fun _ _ => rfl) (fun _ => rfl) (fun u x y => setCell_twice _ _ _ _) (fun _ => Nat.le_refl _) (cN := ((preparedCellV T.toThrowableT (freshCell P1.m.cls kX) (W.heap.size + 2) u0 sen).withEntry W.cur))
    hsel0 hcellS hknownS hvU tkS (fun _ hu => hu) (fun _ hu => hu) rfl rfl rfl (by simp [preparedCellV, Cell.setSlot, Cell.withEntry]) hskip (fun _ _ hA hW _ hroom _ hrest => L.nativeOff p htr hA hW hroom hrest) hselF hvSen tkC tkP tkM Y.objLocals rfl hfr' hwd'
  rw [plainBareV_eq T.toThrowableT (W.heap.size + 2) u0 sen (.ref (W.heap.size + 1)) W.cur rfl rfl] at st
  obtain ⟨-, -, w3, w4, -, -, -⟩ := withThrown_facts e.platform W Zs text P1.m.cls kX
  have X3 := ((X.pushed (bytesOf Zs.cB (stringToUtf16 text))).pushed (stringAt Zs.cS Zs.kS Zs.fv Zs.fc (stringToUtf16 text) W.heap.size)).pushed (freshCell P1.m.cls kX)
  rw [← withString_eq] at X3
  have X4 := X3.noted hW'
  have ha : (W.heap.size + 2) < ((withThrown W Zs text P1.m.cls kX).setVm vm').heap.size := by show _ < (withThrown W Zs text P1.m.cls kX).heap.size; rw [w3]; omega
  have hcell : ((withThrown W Zs text P1.m.cls kX).setVm vm').heap[(W.heap.size + 2)]? = some (freshCell P1.m.cls kX) := w4
  have X5 := ((((X4.stored hcell T.fCause.slot (.ref (W.heap.size + 2))).storedAgain ha T.fStack.slot u0.v).storedAgain ha T.fSupp.slot sen.v).storedAgain ha T.fStack.slot u0.v).storedAgain ha T.fMsg.slot (.ref (W.heap.size + 1))
  obtain ⟨g₁, hfrM⟩ := X5.frames_eq
  have hU : ((((withThrown W Zs text P1.m.cls kX).setVm vm').setCell (W.heap.size + 2) (plainBareV T.toThrowableT (freshCell P1.m.cls kX) (W.heap.size + 2) u0 sen (.ref (W.heap.size + 1)))).setTop g).pushFrame (.throwing (W.heap.size + 2)) = (((withThrown W Zs text P1.m.cls kX).setVm vm').setCell (W.heap.size + 2) (plainBareV T.toThrowableT (freshCell P1.m.cls kX) (W.heap.size + 2) u0 sen (.ref (W.heap.size + 1)))).setFrames (.throwing (W.heap.size + 2) :: .java g :: below) := by
    rw [State.pushFrame, State.frames_setTop _ hfrM, State.setTop_of_frames _ hfrM, State.setFrames_setFrames]
  have b1 : (bytesOf Zs.cB (stringToUtf16 text)).slots.size = (stringBytes (stringToUtf16 text)).size := by
    rw [(Cell.writeAll_facts _ _).2.2]; simp [bytes0]
  have b2 : (stringAt Zs.cS Zs.kS Zs.fv Zs.fc (stringToUtf16 text) W.heap.size).slots.size = 4 := by simp [string0, Cell.setSlot, hn4]
  have b3 : (freshCell P1.m.cls kX).slots.size = 6 := by simp [hn6]
  rw [b1, b2, b3] at X5
  have e9 : slots + (stringBytes (stringToUtf16 text)).size + 4 + 6 = slots + ((stringBytes (stringToUtf16 text)).size + 4 + 6) := by omega
  rw [e9] at X5
  simp only [List.append_assoc, List.cons_append, List.nil_append] at X5
  refine ⟨((withThrown W Zs text P1.m.cls kX).setVm vm').setCell (W.heap.size + 2) (plainBareV T.toThrowableT (freshCell P1.m.cls kX) (W.heap.size + 2) u0 sen (.ref (W.heap.size + 1))), W.heap.size + 2, _, fun target ht => st _ (by rw [X.tail, ← hU]; exact ht),
    X5.forget (fun y hy => ?_), heapAt_setCell_self _ ha, hfound, rfl⟩
  simp only [List.mem_cons, List.not_mem_nil, or_false] at hy
  have hge : s.heap.size ≤ W.heap.size := X.same.2.1
  rcases hy with rfl | rfl | rfl | rfl | rfl <;> exact Nat.le_trans hge (Nat.le_add_right _ 2)
set_option maxHeartbeats 1000000 in
/-- the machine throws NullPointerException, no traces kept: from its note over the frame g to 'throwing' over the same frame (follows the proof of Stand.vmThrowsNpe, Shelf42/KT2.lean; throwsNpeColdBareVAt, Shelf42/NT91.lean, called) -/
theorem vx_npeAt {p : Program} {l : Launch} {e : Env} {R : Room} {s : State} {m₀ : MethodId} {args : Array Value} {below : List Frame} {meth : Method} {c : Code} {W : State} {locs : List Loc} {cells slots : Nat}
    (X : Stand p l e R s m₀ args below meth c W locs cells slots) (hexec : p.tables.exec = Jvm.exec) (htr : e.platform.stackTraces = false) {n : Nat}
    (h : ∀ a ∈ Bundle.npeArmAtoms n, a.before args s = true)
    (hlocs : ∀ x ∈ locs, ∀ cell, s.heap[x.base]? = some cell → cell.vm.isStatics = false)
    {g : JFrame} (hg : g.method = m₀) (hsize : g.locals.size = c.maxLocals)
    (hRframes : 7 < R.frames) (hRlocals : 2 * g.monitorRoom + (g.stack.map fun v => v.category).sum + 10240 ≤ R.locals)
    (hRcells : cells + 1 ≤ R.cells) (hRslots : slots + n ≤ R.slots) (hlocks : meth.locks = false) :
    ∃ (S : State) (q : Addr) (ce : Cell), (∀ target, Steps p.tables e below ((S.setTop g).pushFrame (.throwing q)) target → Steps p.tables e below ((W.setTop g).pushFrame (.throwNew "java/lang/NullPointerException" none none)) target) ∧
      Stand p l e R s m₀ args below meth c S locs (cells + 1) (slots + n) ∧ S.heap[q]? = some ce ∧ s.vm.findClass "java/lang/NullPointerException" = some ce.cls ∧ ce.vm = .none := by
  have howns : e.platform.frameOwnsMonitors = true := by rw [X.admits.platform]
  have hfin : e.platform.finalization = false := by rw [X.admits.platform]
  have hpl : e.platform.magicAccessors = ({} : Platform).magicAccessors := by rw [X.admits.platform]
  have hpl2 : e.platform.arrayCloneIsPublic = true := by rw [X.admits.platform]
  have a' : ∀ x, x ∈ Bundle.npeArmAtoms n → x.holds args s none s [] = true := fun x hx => h x hx
  obtain ⟨T, Z, L, LZ, Y⟩ := ThrowableC.of_atoms (args := args) howns hfin hpl (fun x hx => h x (by simp [Bundle.npeArmAtoms, hx]))
  obtain ⟨N, LN, hcN, hnNF, hordN, hffS⟩ := NpeC.of_atoms (args := args) hpl hpl2 L Y (fun x hx => h x (by simp [Bundle.npeArmAtoms, hx]))
  obtain ⟨P1, L1, hP1m, hP1s⟩ := PassC.of_atoms (args := args) (s := s) hpl (X := Bundle.nN) (Y := Bundle.rN) (by decide) (by decide) LibCode.NullPointerException.Init0.at_0 LibCode.NullPointerException.Init0.at_1 LibCode.NullPointerException.Init0.at_4 (fun x hx => h x (by simp [Bundle.npeArmAtoms, hx]))
  obtain ⟨PR, LR, hPRm, hPRs⟩ := PassC.of_atoms (args := args) (s := s) hpl (X := Bundle.rN) (Y := Bundle.eN) (by decide) (by decide) LibCode.RuntimeException.Init0.at_0 LibCode.RuntimeException.Init0.at_1 LibCode.RuntimeException.Init0.at_4 (fun x hx => h x (by simp [Bundle.npeArmAtoms, hx]))
  obtain ⟨PE, LEx, hPEm, hPEs⟩ := PassC.of_atoms (args := args) (s := s) hpl (X := Bundle.eN) (Y := Bundle.tN) (by decide) (by decide) LibCode.Exception.Init0.at_0 LibCode.Exception.Init0.at_1 LibCode.Exception.Init0.at_4 (fun x hx => h x (by simp [Bundle.npeArmAtoms, hx]))
  have hfound : s.vm.findClass Bundle.nN = some P1.m.cls := findClass_of_methodNamed hP1m
  have ecls : N.cN = P1.m.cls := Option.some.inj (hcN.symm.trans hfound)
  have hk : s.vm.classes[P1.m.cls]? = some N.kN := by rw [← ecls]; exact LN.cls
  have hinit := Cond.initialized_spec hfound hk (a' (.initialized Bundle.nN) (by simp [Bundle.npeArmAtoms]))
  have hctor : N.kN.findMethod "<init>" "()V" = some P1.m.idx := findMethod_of_methodNamed hP1m hk
  obtain ⟨c1, k1, hc1, hk1, -, -, -, hn⟩ := Cond.instantiable_spec (a' (.instantiable Bundle.nN n) (by simp [Bundle.npeArmAtoms]))
  cases Option.some.inj (hc1.symm.trans hfound)
  cases Option.some.inj (hk1.symm.trans hk)
  have hfsz : (freshCell P1.m.cls N.kN).slots.size = n := by simp [hn]
  have hlink1 : P1.sup = PR.m := Option.some.inj (hP1s.symm.trans hPRm)
  have hlinkR : PR.sup = PE.m := Option.some.inj (hPRs.symm.trans hPEm)
  have hlinkE : PE.sup = Z.m T.toThrowableT := Option.some.inj (hPEs.symm.trans Y.init0)
  have hLs : ∀ P, P ∈ [PR, PE] → P.Links0 e.platform s := fun P hP => by
    simp only [List.mem_cons, List.not_mem_nil, or_false] at hP
    rcases hP with rfl | rfl
    · exact LR
    · exact LEx
  have hsel0 : selectMethod e.platform s.vm P1.m.cls T.fill0 = .method T.fill0 := by
    obtain ⟨c2, r2, m2, q1, q2, q3, q4, -⟩ := Cond.selects_spec (a' (.selects Bundle.nN Bundle.tFill0 Bundle.tFill0) (by simp [Bundle.npeArmAtoms]))
    cases Option.some.inj (q1.symm.trans hfound)
    cases Option.some.inj (q2.symm.trans (State.methodFound?_of_named Y.fill0 (by decide)))
    cases Option.some.inj (q3.symm.trans Y.fill0)
    rw [Launch.admits_selectMethod X.admits]; exact q4
  have hselF : selectMethod e.platform s.vm P1.m.cls T.fill = .method N.fill := by
    obtain ⟨c2, r2, m2, q1, q2, q3, q4, -⟩ := Cond.selects_spec (a' (.selects Bundle.nN Bundle.tFill Bundle.nFill) (by simp [Bundle.npeArmAtoms]))
    cases Option.some.inj (q1.symm.trans hfound)
    cases Option.some.inj (q2.symm.trans (State.methodFound?_of_named Y.fill (by decide)))
    cases Option.some.inj (q3.symm.trans hnNF)
    rw [Launch.admits_selectMethod X.admits]; exact q4
  obtain ⟨cellS0, hcS0, hiss⟩ := Y.statics
  obtain ⟨u0, hu0⟩ := Cond.staticRefV Y.unassigned L.unassignedStatic L.statics hcS0 hiss (a' (.isRef (.static Bundle.tN "UNASSIGNED_STACK" Bundle.steD)) (by simp [Bundle.npeArmAtoms]))
  obtain ⟨sen, hsen⟩ := Cond.staticRefV Y.sentinel L.sentinelStatic L.statics hcS0 hiss (a' (.isRef (.static Bundle.tN "SUPPRESSED_SENTINEL" Bundle.listD)) (by simp [Bundle.npeArmAtoms]))
  obtain ⟨ci198, i198, fB, hk198, hg198, ha198, hsB, -, hnB, htB, hffB⟩ := Cond.ownField (t := .object "java/lang/Object") Y.found L.cls (by decide +kernel) (a' (.fieldLink Bundle.tN 198 Bundle.tN "backtrace" Bundle.objD) (by simp [Bundle.npeArmAtoms])) (a' (.lays Bundle.tN Bundle.tN "backtrace" Bundle.objD) (by simp [Bundle.npeArmAtoms])) e.platform hpl
  obtain ⟨cellS, hcS', heS, -, hkeep⟩ := X.same.2.2.2.2.2 T.aS cellS0 hcS0
  have hcellS : W.heap[T.aS]? = some cellS := hcS'
  have hout' : ∀ i, (⟨T.aS, i⟩ : Loc) ∉ locs := fun i hmem => by
    have := hlocs _ hmem cellS0 hcS0
    rw [hiss] at this; cases this
  have hknownS : cellS.vm ≠ .unknown := by
    rw [heS]; intro hu
    rw [show cellS0.vm = .unknown from hu] at hiss
    cases hiss
  have hvU : cellS.slots[T.fUnassigned.slot]? = some u0.v := by rw [hkeep _ (hout' _)]; exact hu0
  have hvSen : cellS.slots[T.fSentinel.slot]? = some sen.v := by rw [hkeep _ (hout' _)]; exact hsen
  obtain ⟨tyC, dC, hdC, hdnC⟩ := Cond.laysAt hfound hk Y.cause (a' (.lays Bundle.nN Bundle.tN "cause" "Ljava/lang/Throwable;") (by simp [Bundle.npeArmAtoms]))
  obtain ⟨tyS, dS, hdS, hdnS⟩ := Cond.laysAt hfound hk Y.stack (a' (.lays Bundle.nN Bundle.tN "stackTrace" Bundle.steD) (by simp [Bundle.npeArmAtoms]))
  obtain ⟨tyP, dP, hdP, hdnP⟩ := Cond.laysAt hfound hk Y.supp (a' (.lays Bundle.nN Bundle.tN "suppressedExceptions" Bundle.listD) (by simp [Bundle.npeArmAtoms]))
  obtain ⟨tyX, dX, hdX, hdnX⟩ := Cond.laysAt hfound hk hffS (a' (.lays Bundle.nN Bundle.nN "extendedMessageState" "I") (by simp [Bundle.npeArmAtoms, Bundle.npeAtoms]))
  obtain ⟨hnX, htX⟩ := State.fieldFound?_type hffS (t := .int) (by decide +kernel)
  have xC := Cond.laysApart hdC hdX hdnC hdnX (by rw [hnX, Y.causeName]; decide)
  have xS := Cond.laysApart hdS hdX hdnS hdnX (by rw [hnX, Y.stackName]; decide)
  have xP := Cond.laysApart hdP hdX hdnP hdnX (by rw [hnX, Y.suppName]; decide)
  have hv0 : (freshCell P1.m.cls N.kN).slots[N.fState.slot]? = some (.int 0) := by
    have := fresh_default (c := P1.m.cls) tyX
    rw [htX] at this; exact this
  obtain ⟨tyB, dB, hdB, hdnB⟩ := Cond.laysAt hfound hk hffB (a' (.lays Bundle.nN Bundle.tN "backtrace" Bundle.objD) (by simp [Bundle.npeArmAtoms]))
  have bC := Cond.laysApart hdB hdC hdnB hdnC (by rw [hnB, Y.causeName]; decide)
  have bS := Cond.laysApart hdB hdS hdnB hdnS (by rw [hnB, Y.stackName]; decide)
  have bP := Cond.laysApart hdB hdP hdnB hdnP (by rw [hnB, Y.suppName]; decide)
  have bX := Cond.laysApart hdB hdX hdnB hdnX (by rw [hnB, hnX]; decide)
  have hbk : ((npeCell N.toNpeT (preparedCellV T.toThrowableT (freshCell P1.m.cls N.kN) W.heap.size u0 sen) W.cur).withEntry W.cur).slots[fB.slot]? = some .null := by
    have := fresh_default (c := P1.m.cls) tyB
    rw [htB] at this
    simpa [npeCell, preparedCellV, Cell.setSlot, Cell.withEntry, Array.getElem?_setIfInBounds, bC, bS, bP, bX, bC.symm, bS.symm, bP.symm, bX.symm, defaultValue] using this
  have tkC := Takes.of_laid (v := .ref W.heap.size) hk hordN tyC (by rw [Y.causeType]; rfl)
  have tkS := Takes.of_laid (v := u0.v) hk hordN tyS (by rw [Y.stackType]; exact fits_refV_array _ u0)
  have tkP := Takes.of_laid (v := sen.v) hk hordN tyP (by rw [Y.suppType]; exact fits_refV_object _ sen)
  have tkX := Takes.of_laid (v := .int 1) hk hordN tyX (by rw [htX]; rfl)
  have hskip : SkipFacts T e.platform s (fun u => u) u0 ((npeCell N.toNpeT (preparedCellV T.toThrowableT (freshCell P1.m.cls N.kN) W.heap.size u0 sen) W.cur).withEntry W.cur) := ⟨{ ci198 := ci198, i198 := i198, fBack := fB }, ⟨hk198, hg198, ha198, hsB⟩, hbk, fun _ _ => rfl⟩
  obtain ⟨vm', X3, st, -⟩ := X.throwsNpeColdBareVAt hexec hg hsize T L Z LZ N LN P1 L1 [PR, PE] hLs hlink1 ⟨hlinkR, hlinkE, trivial⟩ hfound hk hinit hordN hctor hsel0 hselF hcellS hknownS hvU hvSen
    hv0 xC xS xP tkC tkS tkP tkX Y.objLocals hskip (fun _ _ hA hW _ hroom _ hrest => L.nativeOff p htr hA hW hroom hrest) (by simpa using hRframes) hRlocals (by simp) hRcells (by rw [hn]; exact hRslots)
  have hlt : W.heap.size < ((W.pushCell (freshCell P1.m.cls N.kN)).setVm vm').heap.size := by
    show W.heap.size < (W.pushCell (freshCell P1.m.cls N.kN)).heap.size
    rw [State.heap_size_pushCell]; omega
  rw [hfsz] at X3
  obtain ⟨g₁, hfrM⟩ := X3.frames_eq
  have hU : ((((W.pushCell (freshCell P1.m.cls N.kN)).setVm vm').setCell W.heap.size (npeBareV T.toThrowableT N.toNpeT (freshCell P1.m.cls N.kN) W.heap.size u0 sen)).setTop g).pushFrame (.throwing W.heap.size) = (((W.pushCell (freshCell P1.m.cls N.kN)).setVm vm').setCell W.heap.size (npeBareV T.toThrowableT N.toNpeT (freshCell P1.m.cls N.kN) W.heap.size u0 sen)).setFrames (.throwing W.heap.size :: .java g :: below) := by
    rw [State.pushFrame, State.frames_setTop _ hfrM, State.setTop_of_frames _ hfrM, State.setFrames_setFrames]
  refine ⟨_, W.heap.size, _, fun target ht => st.trans (by rw [← hU]; exact ht), X3.forget (fun y hy => ?_), heapAt_setCell_self _ hlt, hfound, rfl⟩
  simp only [List.mem_cons, List.not_mem_nil, or_false] at hy
  have hge : s.heap.size ≤ W.heap.size := X.same.2.1
  rcases hy with rfl | rfl | rfl | rfl | rfl <;> exact hge
/-- the words of a machine's NullPointerException, but the four that speak of the heap -/
def vx_atN (n : Nat) : List Cond := (Bundle.npeArmAtoms n).filter vx_no
/-- the words of a machine's throw with a message, but the four that speak of the heap -/
def vx_atM (X : String) (names : List String) : List Cond := (Bundle.messageArmAtoms X names).filter vx_no
section
variable {p : Program} {l : Launch} {e : Env} {R : Room} {s : State} {m : MethodId} {args : Array Value} {below : List Frame} {meth : Method} {c : Code} {H : Heap} {locs : List Loc} {cells slots : Nat}
/-- a frame seen from a rebased start, seen from the first start again -/
theorem vx_back9 {T S : State} {R' : Room} {k n : Nat} (X : Stand p l e R s m args below meth c T locs cells slots) (Y : Stand p l e R' ((T.setVm s.vm).setFrames (.invoking m args :: below)) m args below meth c T [] 0 0) (Z : Stand p l e R' ((T.setVm s.vm).setFrames (.invoking m args :: below)) m args below meth c S [] k n) :
    Stand p l e R s m args below meth c S locs (cells + k) (slots + n) := by
  have hW0 : s.WarmedH ((T.setVm s.vm).setFrames (.invoking m args :: below)).vm := State.WarmedH.refl s
  refine { admits := X.admits, cas := X.cas, clock := X.clock, frames := X.frames, room := X.room, hears := X.hears, method := X.method, code := X.code, here := Z.here, tail := Z.tail, warmed := State.WarmedH.trans hW0 Z.warmed, limits := Z.limits.trans (Y.limits.symm.trans X.limits), bytes := Z.bytes.trans (Y.bytes.symm.trans X.bytes), same := ?_ }
  obtain ⟨e1, e2⟩ := Z.same
  rw [State.setFrames_setFrames] at e1
  have h2 : (T.setVm s.vm).sameButNew (S.setVm s.vm) [] k n := ⟨e1, e2⟩
  have h3 := X.same.trans h2
  rw [List.append_nil] at h3
  exact h3
/-- from the machine's note that E is thrown here with this text -/
def vx_Note (p : Program) (l : Launch) (e : Env) (R : Room) (s : State) (m : MethodId) (args : Array Value) (below : List Frame) (meth : Method) (c : Code) (H : Heap) (locs : List Loc) (cells slots : Nat) (Q : State → Prop) (g : JFrame) (E text : String) : Prop :=
  ∀ T : State, T.heap = H → Stand p l e R s m args below meth c T locs cells slots → ∃ t, Steps p.tables e below ((T.setTop g).pushFrame (.throwNew E (some text) none)) t ∧ Q t
theorem vx_vm {pc : Nat} {ls : Array Slot} {rest : List Value} {Q : State → Prop} (hexec : p.tables.exec = Jvm.exec) (hl : l.stackTraces = false) {cls text : String} {names : List String} {nb : Nat} {A : Nat → Prop}
    (hcls : Bundle.fit cls = true) (hnames : ∀ n ∈ names, Bundle.fit n = true) (hsoe : (cls == "java/lang/StackOverflowError") = false) (hoom : (cls == "java/lang/OutOfMemoryError") = false)
    (hat : ∀ w ∈ vx_atM cls names, w.before args s = true) (hgood : ∀ w ∈ vx_atM cls names, vx_ot w = true)
    (hU : vx_Zq Bundle.tN "UNASSIGNED_STACK" Bundle.steD A s s.heap) (hN : vx_Zq Bundle.tN "SUPPRESSED_SENTINEL" Bundle.listD A s s.heap) (hS : va_S A s.heap H locs) (hsize : ls.size = c.maxLocals)
    (htext : (text == notModelled) = false) (hnb : (stringBytes (stringToUtf16 text)).size ≤ nb) (hnb1 : nb ≤ 1000)
    (hRframes : names.length + 4 < R.frames) (hRlocals : (rest.map fun v => v.category).sum + 10240 ≤ R.locals) (hshort : 13 * names.length + 55 ≤ 10240) (hRcells : cells + 3 ≤ R.cells) (hRslots : slots + (nb + 10) ≤ R.slots) (hlocks : meth.locks = false)
    (k : ∀ (H1 : Heap) (q9 : Addr) (ce : Cell), H.size ≤ H1.size → (∀ q : Nat, q < H.size → H1[q]? = H[q]?) → va_S A s.heap H1 locs → H1[q9]? = some ce → ce.vm = .none → s.vm.findClass cls = some ce.cls → vx_W p l e R s m args below meth c H1 locs (cells + 3) (slots + (nb + 10)) Q (F0 m pc ls rest) q9) :
    vx_Note p l e R s m args below meth c H locs cells slots Q (F0 m pc ls rest) cls text := by
  intro T hT X
  have htr : e.platform.stackTraces = false := (show e.platform.stackTraces = l.stackTraces by rw [X.admits.platform]).trans hl
  have Y := vx_rebase X (R' := { frames := R.frames, locals := R.locals, cells := 3, slots := nb + 10 }) (Nat.le_refl _) (Nat.le_refl _) hRcells hRslots
  have hhp : ((T.setVm s.vm).setFrames (.invoking m args :: below)).heap = H := hT
  have hW0 : s.WarmedH ((T.setVm s.vm).setFrames (.invoking m args :: below)).vm := State.WarmedH.refl s
  have hat' : ∀ w ∈ vx_atM cls names, w.before args ((T.setVm s.vm).setFrames (.invoking m args :: below)) = true := fun w hw => vx_ot_at hW0 rfl (hgood w hw) (hat w hw)
  have hU' : vx_Zq Bundle.tN "UNASSIGNED_STACK" Bundle.steD A ((T.setVm s.vm).setFrames (.invoking m args :: below)) ((T.setVm s.vm).setFrames (.invoking m args :: below)).heap := by rw [hhp]; exact vx_Zq.moved hW0.alike (hU.kept hS.2.1)
  have hN' : vx_Zq Bundle.tN "SUPPRESSED_SENTINEL" Bundle.listD A ((T.setVm s.vm).setFrames (.invoking m args :: below)) ((T.setVm s.vm).setFrames (.invoking m args :: below)).heap := by rw [hhp]; exact vx_Zq.moved hW0.alike (hN.kept hS.2.1)
  obtain ⟨S, q, ce, st, Z, hce, hcl', hv⟩ := vx_vmAt Y hexec htr (cls := cls) (names := names) (text := text) hcls hnames hsoe hoom (vx_own hat' (vx_isRefq hU'.1) (vx_isRefq hN'.1) hU'.2.word hN'.2.word) (fun x hx => nomatch hx) htext
    (by rw [Launch.admits_arrayLengthLimit X.admits]; omega) (by rw [Launch.admits_maxHeapBytes X.admits]; simp only [componentBytes]; omega)
    (g := F0 m pc ls rest) rfl hsize hRframes (by show 2 * 0 + (rest.map fun v => v.category).sum + 10240 ≤ R.locals; omega) hshort (by show 0 + 3 ≤ 3; omega) (by show 0 + (_ + 4 + 6) ≤ nb + 10; omega) hlocks
  obtain ⟨f1, f2⟩ := vx_frame Z.same
  have f1' : H.size ≤ S.heap.size := by rw [← hT]; exact f1
  have f2' : ∀ q : Nat, q < H.size → S.heap[q]? = H[q]? := fun q hq => by
    rw [← hT]
    exact f2 q (by rw [← hT] at hq; exact hq) (fun z hz => nomatch hz)
  have X5 := vx_back9 X Y Z
  have X6 : Stand p l e R s m args below meth c S locs (cells + 3) (slots + (nb + 10)) := { X5 with same := X5.same.mono (by omega) (by omega) }
  obtain ⟨t, a1, b1⟩ := k S.heap q ce f1' f2' ⟨Nat.le_trans hS.1 f1', fun q h1 h2 => (f2' q (Nat.lt_of_lt_of_le h1 hS.1)).trans (hS.2.1 q h1 h2), hS.2.2⟩ hce hv hcl' S rfl X6
  exact ⟨t, st t a1, b1⟩
/-- from the machine's note that NullPointerException is thrown here -/
def vx_NoteN (p : Program) (l : Launch) (e : Env) (R : Room) (s : State) (m : MethodId) (args : Array Value) (below : List Frame) (meth : Method) (c : Code) (H : Heap) (locs : List Loc) (cells slots : Nat) (Q : State → Prop) (g : JFrame) : Prop :=
  ∀ T : State, T.heap = H → Stand p l e R s m args below meth c T locs cells slots → ∃ t, Steps p.tables e below ((T.setTop g).pushFrame (.throwNew "java/lang/NullPointerException" none none)) t ∧ Q t
theorem vx_npe {pc : Nat} {ls : Array Slot} {rest : List Value} {Q : State → Prop} (hexec : p.tables.exec = Jvm.exec) (hl : l.stackTraces = false) {nb : Nat} {A : Nat → Prop}
    (hat : ∀ w ∈ vx_atN nb, w.before args s = true) (hgood : ∀ w ∈ vx_atN nb, vx_ot w = true)
    (hU : vx_Zq Bundle.tN "UNASSIGNED_STACK" Bundle.steD A s s.heap) (hN : vx_Zq Bundle.tN "SUPPRESSED_SENTINEL" Bundle.listD A s s.heap) (hS : va_S A s.heap H locs) (hsize : ls.size = c.maxLocals)
    (hRframes : 7 < R.frames) (hRlocals : (rest.map fun v => v.category).sum + 10240 ≤ R.locals) (hRcells : cells + 1 ≤ R.cells) (hRslots : slots + nb ≤ R.slots) (hlocks : meth.locks = false)
    (k : ∀ (H1 : Heap) (q9 : Addr) (ce : Cell), H.size ≤ H1.size → (∀ q : Nat, q < H.size → H1[q]? = H[q]?) → va_S A s.heap H1 locs → H1[q9]? = some ce → ce.vm = .none → s.vm.findClass "java/lang/NullPointerException" = some ce.cls → vx_W p l e R s m args below meth c H1 locs (cells + 1) (slots + nb) Q (F0 m pc ls rest) q9) :
    vx_NoteN p l e R s m args below meth c H locs cells slots Q (F0 m pc ls rest) := by
  intro T hT X
  have htr : e.platform.stackTraces = false := (show e.platform.stackTraces = l.stackTraces by rw [X.admits.platform]).trans hl
  have Y := vx_rebase X (R' := { frames := R.frames, locals := R.locals, cells := 1, slots := nb }) (Nat.le_refl _) (Nat.le_refl _) hRcells hRslots
  have hhp : ((T.setVm s.vm).setFrames (.invoking m args :: below)).heap = H := hT
  have hW0 : s.WarmedH ((T.setVm s.vm).setFrames (.invoking m args :: below)).vm := State.WarmedH.refl s
  have hat' : ∀ w ∈ vx_atN nb, w.before args ((T.setVm s.vm).setFrames (.invoking m args :: below)) = true := fun w hw => vx_ot_at hW0 rfl (hgood w hw) (hat w hw)
  have hU' : vx_Zq Bundle.tN "UNASSIGNED_STACK" Bundle.steD A ((T.setVm s.vm).setFrames (.invoking m args :: below)) ((T.setVm s.vm).setFrames (.invoking m args :: below)).heap := by rw [hhp]; exact vx_Zq.moved hW0.alike (hU.kept hS.2.1)
  have hN' : vx_Zq Bundle.tN "SUPPRESSED_SENTINEL" Bundle.listD A ((T.setVm s.vm).setFrames (.invoking m args :: below)) ((T.setVm s.vm).setFrames (.invoking m args :: below)).heap := by rw [hhp]; exact vx_Zq.moved hW0.alike (hN.kept hS.2.1)
  obtain ⟨S, q, ce, st, Z, hce, hcl', hv⟩ := vx_npeAt Y hexec htr (n := nb) (vx_own hat' (vx_isRefq hU'.1) (vx_isRefq hN'.1) hU'.2.word hN'.2.word) (fun x hx => nomatch hx)
    (g := F0 m pc ls rest) rfl hsize hRframes (by show 2 * 0 + (rest.map fun v => v.category).sum + 10240 ≤ R.locals; omega) (by show 0 + 1 ≤ 1; omega) (by show 0 + nb ≤ nb; omega) hlocks
  obtain ⟨f1, f2⟩ := vx_frame Z.same
  have f1' : H.size ≤ S.heap.size := by rw [← hT]; exact f1
  have f2' : ∀ q : Nat, q < H.size → S.heap[q]? = H[q]? := fun q hq => by
    rw [← hT]
    exact f2 q (by rw [← hT] at hq; exact hq) (fun z hz => nomatch hz)
  have X5 := vx_back9 X Y Z
  have X6 : Stand p l e R s m args below meth c S locs (cells + 1) (slots + nb) := { X5 with same := X5.same.mono (by omega) (by omega) }
  obtain ⟨t, a1, b1⟩ := k S.heap q ce f1' f2' ⟨Nat.le_trans hS.1 f1', fun q h1 h2 => (f2' q (Nat.lt_of_lt_of_le h1 hS.1)).trans (hS.2.1 q h1 h2), hS.2.2⟩ hce hv hcl' S rfl X6
  exact ⟨t, st t a1, b1⟩
variable {Q : State → Prop} {cc : ByteArray} {pc : Nat} {ls : Array Slot} {rest : List Value}
theorem vx_idivZ (hexec : p.tables.exec = Jvm.exec) (hb : c.code = cc) {a b : Int32} (h0 : b = 0) (d : decode cc pc = .ok (.idiv, 1)) (k : vx_Note p l e R s m args below meth c H locs cells slots Q (F0 m pc ls rest) "java/lang/ArithmeticException" "/ by zero") :
    W p l e R s m args below meth c H locs cells slots Q (F0 m pc ls (.int b :: .int a :: rest)) := by
  intro T hT X
  obtain ⟨t, st, q⟩ := k T hT X
  exact ⟨t, X.idivZero hexec (g := F0 m pc ls (.int b :: .int a :: rest)) rfl (a := a) (rest := rest) (by rw [h0]) (by rw [hb]; exact d) t st, q⟩
theorem vx_iremZ (hexec : p.tables.exec = Jvm.exec) (hb : c.code = cc) {a b : Int32} (h0 : b = 0) (d : decode cc pc = .ok (.irem, 1)) (k : vx_Note p l e R s m args below meth c H locs cells slots Q (F0 m pc ls rest) "java/lang/ArithmeticException" "/ by zero") :
    W p l e R s m args below meth c H locs cells slots Q (F0 m pc ls (.int b :: .int a :: rest)) := by
  intro T hT X
  obtain ⟨t, st, q⟩ := k T hT X
  exact ⟨t, X.iremZero hexec (g := F0 m pc ls (.int b :: .int a :: rest)) rfl (a := a) (rest := rest) (by rw [h0]) (by rw [hb]; exact d) t st, q⟩
theorem vx_ldivZ (hexec : p.tables.exec = Jvm.exec) (hb : c.code = cc) {a b : Int64} (h0 : b = 0) (d : decode cc pc = .ok (.ldiv, 1)) (k : vx_Note p l e R s m args below meth c H locs cells slots Q (F0 m pc ls rest) "java/lang/ArithmeticException" "/ by zero") :
    W p l e R s m args below meth c H locs cells slots Q (F0 m pc ls (.long b :: .long a :: rest)) := by
  intro T hT X
  obtain ⟨t, st, q⟩ := k T hT X
  exact ⟨t, X.ldivZero hexec (g := F0 m pc ls (.long b :: .long a :: rest)) rfl (a := a) (rest := rest) (by rw [h0]) (by rw [hb]; exact d) t st, q⟩
theorem vx_lremZ (hexec : p.tables.exec = Jvm.exec) (hb : c.code = cc) {a b : Int64} (h0 : b = 0) (d : decode cc pc = .ok (.lrem, 1)) (k : vx_Note p l e R s m args below meth c H locs cells slots Q (F0 m pc ls rest) "java/lang/ArithmeticException" "/ by zero") :
    W p l e R s m args below meth c H locs cells slots Q (F0 m pc ls (.long b :: .long a :: rest)) := by
  intro T hT X
  obtain ⟨t, st, q⟩ := k T hT X
  exact ⟨t, X.lremZero hexec (g := F0 m pc ls (.long b :: .long a :: rest)) rfl (a := a) (rest := rest) (by rw [h0]) (by rw [hb]; exact d) t st, q⟩
theorem vx_ialdZ {D : va_G} {cl : List vw_C} {ws : va_W} {tys : List (ClassId × FieldType)} {a : Nat} (hexec : p.tables.exec = Jvm.exec) (hb : c.code = cc) (hK : va_K D cl tys s) (hP : va_P D cl ws H) (q0 t0 : Nat) {cA : ClassId} {n : Nat} {f : Nat → Int32} (ha : ws[q0]? = some (a, .inl (cA, n, .inl f))) (ht : tys[t0]? = some (cA, .int)) {i : Int32} (hout : ¬ vp_in i n) (hdg : decode cc pc = .ok (.iaload, 1))
    (k : ∀ tx : String, tx = (toString "Index " ++ toString i ++ toString " out of bounds for length " ++ toString n) → vx_Note p l e R s m args below meth c H locs cells slots Q (F0 m pc ls rest) "java/lang/ArrayIndexOutOfBoundsException" tx) : W p l e R s m args below meth c H locs cells slots Q (F0 m pc ls (.int i :: .ref a :: rest)) := by
  intro T hT X
  obtain ⟨t, st, q⟩ := k _ rfl T hT X
  refine ⟨t, ?_, q⟩
  have h1 := X.ialoadOut hexec (by rw [hT]; exact hP q0 _ ha) ((hK.2 t0 _ ht).1 n (fun j => .int (f j))) (j := i) (by show (i < 0 ∨ (arrV _ _ _).slots.size ≤ _); rw [arrV_size]; exact Classical.byContradiction hout) (g := F0 m pc ls (.int i :: .ref a :: rest)) rfl (rest := rest) rfl (by rw [hb]; exact hdg) t
  simp only [arrV_size] at h1
  exact h1 st
theorem vx_iastZ {D : va_G} {cl : List vw_C} {ws : va_W} {tys : List (ClassId × FieldType)} {a : Nat} (hexec : p.tables.exec = Jvm.exec) (hb : c.code = cc) (hK : va_K D cl tys s) (hP : va_P D cl ws H) (q0 t0 : Nat) {cA : ClassId} {n : Nat} {f : Nat → Int32} (ha : ws[q0]? = some (a, .inl (cA, n, .inl f))) (ht : tys[t0]? = some (cA, .int)) {i : Int32} {x : Int32} (hout : ¬ vp_in i n) (hdg : decode cc pc = .ok (.iastore, 1))
    (k : ∀ tx : String, tx = (toString "Index " ++ toString i ++ toString " out of bounds for length " ++ toString n) → vx_Note p l e R s m args below meth c H locs cells slots Q (F0 m pc ls rest) "java/lang/ArrayIndexOutOfBoundsException" tx) : W p l e R s m args below meth c H locs cells slots Q (F0 m pc ls (.int x :: .int i :: .ref a :: rest)) := by
  intro T hT X
  obtain ⟨t, st, q⟩ := k _ rfl T hT X
  refine ⟨t, ?_, q⟩
  have h1 := X.iastoreOut hexec (by rw [hT]; exact hP q0 _ ha) ((hK.2 t0 _ ht).1 n (fun j => .int (f j))) (j := i) (by show (i < 0 ∨ (arrV _ _ _).slots.size ≤ _); rw [arrV_size]; exact Classical.byContradiction hout) (g := F0 m pc ls (.int x :: .int i :: .ref a :: rest)) rfl (rest := rest) rfl (by rw [hb]; exact hdg) t
  simp only [arrV_size] at h1
  exact h1 st
theorem vx_baldZ {D : va_G} {cl : List vw_C} {ws : va_W} {tys : List (ClassId × FieldType)} {a : Nat} (hexec : p.tables.exec = Jvm.exec) (hb : c.code = cc) (hK : va_K D cl tys s) (hP : va_P D cl ws H) (q0 t0 : Nat) {cA : ClassId} {n : Nat} {f : Nat → Int32} (ha : ws[q0]? = some (a, .inl (cA, n, .inl f))) (ht : tys[t0]? = some (cA, .byte)) {i : Int32} (hout : ¬ vp_in i n) (hdg : decode cc pc = .ok (.baload, 1))
    (k : ∀ tx : String, tx = (toString "Index " ++ toString i ++ toString " out of bounds for length " ++ toString n) → vx_Note p l e R s m args below meth c H locs cells slots Q (F0 m pc ls rest) "java/lang/ArrayIndexOutOfBoundsException" tx) : W p l e R s m args below meth c H locs cells slots Q (F0 m pc ls (.int i :: .ref a :: rest)) := by
  intro T hT X
  obtain ⟨t, st, q⟩ := k _ rfl T hT X
  refine ⟨t, ?_, q⟩
  have h1 := X.baloadOut hexec (by rw [hT]; exact hP q0 _ ha) ((hK.2 t0 _ ht).1 n (fun j => .int (f j))) (j := i) (by show (i < 0 ∨ (arrV _ _ _).slots.size ≤ _); rw [arrV_size]; exact Classical.byContradiction hout) (g := F0 m pc ls (.int i :: .ref a :: rest)) rfl (rest := rest) rfl (by rw [hb]; exact hdg) t
  simp only [arrV_size] at h1
  exact h1 st
theorem vx_bastZ {D : va_G} {cl : List vw_C} {ws : va_W} {tys : List (ClassId × FieldType)} {a : Nat} (hexec : p.tables.exec = Jvm.exec) (hb : c.code = cc) (hK : va_K D cl tys s) (hP : va_P D cl ws H) (q0 t0 : Nat) {cA : ClassId} {n : Nat} {f : Nat → Int32} (ha : ws[q0]? = some (a, .inl (cA, n, .inl f))) (ht : tys[t0]? = some (cA, .byte)) {i : Int32} {x : Int32} (hout : ¬ vp_in i n) (hdg : decode cc pc = .ok (.bastore, 1))
    (k : ∀ tx : String, tx = (toString "Index " ++ toString i ++ toString " out of bounds for length " ++ toString n) → vx_Note p l e R s m args below meth c H locs cells slots Q (F0 m pc ls rest) "java/lang/ArrayIndexOutOfBoundsException" tx) : W p l e R s m args below meth c H locs cells slots Q (F0 m pc ls (.int x :: .int i :: .ref a :: rest)) := by
  intro T hT X
  obtain ⟨t, st, q⟩ := k _ rfl T hT X
  refine ⟨t, ?_, q⟩
  have h1 := X.bastoreOut hexec (by rw [hT]; exact hP q0 _ ha) ((hK.2 t0 _ ht).1 n (fun j => .int (f j))) (j := i) (by show (i < 0 ∨ (arrV _ _ _).slots.size ≤ _); rw [arrV_size]; exact Classical.byContradiction hout) (g := F0 m pc ls (.int x :: .int i :: .ref a :: rest)) rfl (rest := rest) rfl (by rw [hb]; exact hdg) t
  simp only [arrV_size] at h1
  exact h1 st
theorem vx_zaldZ {D : va_G} {cl : List vw_C} {ws : va_W} {tys : List (ClassId × FieldType)} {a : Nat} (hexec : p.tables.exec = Jvm.exec) (hb : c.code = cc) (hK : va_K D cl tys s) (hP : va_P D cl ws H) (q0 t0 : Nat) {cA : ClassId} {n : Nat} {f : Nat → Int32} (ha : ws[q0]? = some (a, .inl (cA, n, .inl f))) (ht : tys[t0]? = some (cA, .boolean)) {i : Int32} (hout : ¬ vp_in i n) (hdg : decode cc pc = .ok (.baload, 1))
    (k : ∀ tx : String, tx = (toString "Index " ++ toString i ++ toString " out of bounds for length " ++ toString n) → vx_Note p l e R s m args below meth c H locs cells slots Q (F0 m pc ls rest) "java/lang/ArrayIndexOutOfBoundsException" tx) : W p l e R s m args below meth c H locs cells slots Q (F0 m pc ls (.int i :: .ref a :: rest)) := by
  intro T hT X
  obtain ⟨t, st, q⟩ := k _ rfl T hT X
  refine ⟨t, ?_, q⟩
  have h1 := X.baloadOut hexec (by rw [hT]; exact hP q0 _ ha) ((hK.2 t0 _ ht).1 n (fun j => .int (f j))) (j := i) (by show (i < 0 ∨ (arrV _ _ _).slots.size ≤ _); rw [arrV_size]; exact Classical.byContradiction hout) (g := F0 m pc ls (.int i :: .ref a :: rest)) rfl (rest := rest) rfl (by rw [hb]; exact hdg) t
  simp only [arrV_size] at h1
  exact h1 st
theorem vx_zastZ {D : va_G} {cl : List vw_C} {ws : va_W} {tys : List (ClassId × FieldType)} {a : Nat} (hexec : p.tables.exec = Jvm.exec) (hb : c.code = cc) (hK : va_K D cl tys s) (hP : va_P D cl ws H) (q0 t0 : Nat) {cA : ClassId} {n : Nat} {f : Nat → Int32} (ha : ws[q0]? = some (a, .inl (cA, n, .inl f))) (ht : tys[t0]? = some (cA, .boolean)) {i : Int32} {x : Int32} (hout : ¬ vp_in i n) (hdg : decode cc pc = .ok (.bastore, 1))
    (k : ∀ tx : String, tx = (toString "Index " ++ toString i ++ toString " out of bounds for length " ++ toString n) → vx_Note p l e R s m args below meth c H locs cells slots Q (F0 m pc ls rest) "java/lang/ArrayIndexOutOfBoundsException" tx) : W p l e R s m args below meth c H locs cells slots Q (F0 m pc ls (.int x :: .int i :: .ref a :: rest)) := by
  intro T hT X
  obtain ⟨t, st, q⟩ := k _ rfl T hT X
  refine ⟨t, ?_, q⟩
  have h1 := X.bastoreOut hexec (by rw [hT]; exact hP q0 _ ha) ((hK.2 t0 _ ht).1 n (fun j => .int (f j))) (j := i) (by show (i < 0 ∨ (arrV _ _ _).slots.size ≤ _); rw [arrV_size]; exact Classical.byContradiction hout) (g := F0 m pc ls (.int x :: .int i :: .ref a :: rest)) rfl (rest := rest) rfl (by rw [hb]; exact hdg) t
  simp only [arrV_size] at h1
  exact h1 st
theorem vx_caldZ {D : va_G} {cl : List vw_C} {ws : va_W} {tys : List (ClassId × FieldType)} {a : Nat} (hexec : p.tables.exec = Jvm.exec) (hb : c.code = cc) (hK : va_K D cl tys s) (hP : va_P D cl ws H) (q0 t0 : Nat) {cA : ClassId} {n : Nat} {f : Nat → Int32} (ha : ws[q0]? = some (a, .inl (cA, n, .inl f))) (ht : tys[t0]? = some (cA, .char)) {i : Int32} (hout : ¬ vp_in i n) (hdg : decode cc pc = .ok (.caload, 1))
    (k : ∀ tx : String, tx = (toString "Index " ++ toString i ++ toString " out of bounds for length " ++ toString n) → vx_Note p l e R s m args below meth c H locs cells slots Q (F0 m pc ls rest) "java/lang/ArrayIndexOutOfBoundsException" tx) : W p l e R s m args below meth c H locs cells slots Q (F0 m pc ls (.int i :: .ref a :: rest)) := by
  intro T hT X
  obtain ⟨t, st, q⟩ := k _ rfl T hT X
  refine ⟨t, ?_, q⟩
  have h1 := X.caloadOut hexec (by rw [hT]; exact hP q0 _ ha) ((hK.2 t0 _ ht).1 n (fun j => .int (f j))) (j := i) (by show (i < 0 ∨ (arrV _ _ _).slots.size ≤ _); rw [arrV_size]; exact Classical.byContradiction hout) (g := F0 m pc ls (.int i :: .ref a :: rest)) rfl (rest := rest) rfl (by rw [hb]; exact hdg) t
  simp only [arrV_size] at h1
  exact h1 st
theorem vx_castZ {D : va_G} {cl : List vw_C} {ws : va_W} {tys : List (ClassId × FieldType)} {a : Nat} (hexec : p.tables.exec = Jvm.exec) (hb : c.code = cc) (hK : va_K D cl tys s) (hP : va_P D cl ws H) (q0 t0 : Nat) {cA : ClassId} {n : Nat} {f : Nat → Int32} (ha : ws[q0]? = some (a, .inl (cA, n, .inl f))) (ht : tys[t0]? = some (cA, .char)) {i : Int32} {x : Int32} (hout : ¬ vp_in i n) (hdg : decode cc pc = .ok (.castore, 1))
    (k : ∀ tx : String, tx = (toString "Index " ++ toString i ++ toString " out of bounds for length " ++ toString n) → vx_Note p l e R s m args below meth c H locs cells slots Q (F0 m pc ls rest) "java/lang/ArrayIndexOutOfBoundsException" tx) : W p l e R s m args below meth c H locs cells slots Q (F0 m pc ls (.int x :: .int i :: .ref a :: rest)) := by
  intro T hT X
  obtain ⟨t, st, q⟩ := k _ rfl T hT X
  refine ⟨t, ?_, q⟩
  have h1 := X.castoreOut hexec (by rw [hT]; exact hP q0 _ ha) ((hK.2 t0 _ ht).1 n (fun j => .int (f j))) (j := i) (by show (i < 0 ∨ (arrV _ _ _).slots.size ≤ _); rw [arrV_size]; exact Classical.byContradiction hout) (g := F0 m pc ls (.int x :: .int i :: .ref a :: rest)) rfl (rest := rest) rfl (by rw [hb]; exact hdg) t
  simp only [arrV_size] at h1
  exact h1 st
theorem vx_saldZ {D : va_G} {cl : List vw_C} {ws : va_W} {tys : List (ClassId × FieldType)} {a : Nat} (hexec : p.tables.exec = Jvm.exec) (hb : c.code = cc) (hK : va_K D cl tys s) (hP : va_P D cl ws H) (q0 t0 : Nat) {cA : ClassId} {n : Nat} {f : Nat → Int32} (ha : ws[q0]? = some (a, .inl (cA, n, .inl f))) (ht : tys[t0]? = some (cA, .short)) {i : Int32} (hout : ¬ vp_in i n) (hdg : decode cc pc = .ok (.saload, 1))
    (k : ∀ tx : String, tx = (toString "Index " ++ toString i ++ toString " out of bounds for length " ++ toString n) → vx_Note p l e R s m args below meth c H locs cells slots Q (F0 m pc ls rest) "java/lang/ArrayIndexOutOfBoundsException" tx) : W p l e R s m args below meth c H locs cells slots Q (F0 m pc ls (.int i :: .ref a :: rest)) := by
  intro T hT X
  obtain ⟨t, st, q⟩ := k _ rfl T hT X
  refine ⟨t, ?_, q⟩
  have h1 := X.saloadOut hexec (by rw [hT]; exact hP q0 _ ha) ((hK.2 t0 _ ht).1 n (fun j => .int (f j))) (j := i) (by show (i < 0 ∨ (arrV _ _ _).slots.size ≤ _); rw [arrV_size]; exact Classical.byContradiction hout) (g := F0 m pc ls (.int i :: .ref a :: rest)) rfl (rest := rest) rfl (by rw [hb]; exact hdg) t
  simp only [arrV_size] at h1
  exact h1 st
theorem vx_sastZ {D : va_G} {cl : List vw_C} {ws : va_W} {tys : List (ClassId × FieldType)} {a : Nat} (hexec : p.tables.exec = Jvm.exec) (hb : c.code = cc) (hK : va_K D cl tys s) (hP : va_P D cl ws H) (q0 t0 : Nat) {cA : ClassId} {n : Nat} {f : Nat → Int32} (ha : ws[q0]? = some (a, .inl (cA, n, .inl f))) (ht : tys[t0]? = some (cA, .short)) {i : Int32} {x : Int32} (hout : ¬ vp_in i n) (hdg : decode cc pc = .ok (.sastore, 1))
    (k : ∀ tx : String, tx = (toString "Index " ++ toString i ++ toString " out of bounds for length " ++ toString n) → vx_Note p l e R s m args below meth c H locs cells slots Q (F0 m pc ls rest) "java/lang/ArrayIndexOutOfBoundsException" tx) : W p l e R s m args below meth c H locs cells slots Q (F0 m pc ls (.int x :: .int i :: .ref a :: rest)) := by
  intro T hT X
  obtain ⟨t, st, q⟩ := k _ rfl T hT X
  refine ⟨t, ?_, q⟩
  have h1 := X.sastoreOut hexec (by rw [hT]; exact hP q0 _ ha) ((hK.2 t0 _ ht).1 n (fun j => .int (f j))) (j := i) (by show (i < 0 ∨ (arrV _ _ _).slots.size ≤ _); rw [arrV_size]; exact Classical.byContradiction hout) (g := F0 m pc ls (.int x :: .int i :: .ref a :: rest)) rfl (rest := rest) rfl (by rw [hb]; exact hdg) t
  simp only [arrV_size] at h1
  exact h1 st
theorem vx_laldZ {D : va_G} {cl : List vw_C} {ws : va_W} {tys : List (ClassId × FieldType)} {a : Nat} (hexec : p.tables.exec = Jvm.exec) (hb : c.code = cc) (hK : va_K D cl tys s) (hP : va_P D cl ws H) (q0 t0 : Nat) {cA : ClassId} {n : Nat} {f : Nat → Int64} (ha : ws[q0]? = some (a, .inl (cA, n, .inr (.inl f)))) (ht : tys[t0]? = some (cA, .long)) {i : Int32} (hout : ¬ vp_in i n) (hdg : decode cc pc = .ok (.laload, 1))
    (k : ∀ tx : String, tx = (toString "Index " ++ toString i ++ toString " out of bounds for length " ++ toString n) → vx_Note p l e R s m args below meth c H locs cells slots Q (F0 m pc ls rest) "java/lang/ArrayIndexOutOfBoundsException" tx) : W p l e R s m args below meth c H locs cells slots Q (F0 m pc ls (.int i :: .ref a :: rest)) := by
  intro T hT X
  obtain ⟨t, st, q⟩ := k _ rfl T hT X
  refine ⟨t, ?_, q⟩
  have h1 := X.laloadOut hexec (by rw [hT]; exact hP q0 _ ha) ((hK.2 t0 _ ht).1 n (fun j => .long (f j))) (j := i) (by show (i < 0 ∨ (arrV _ _ _).slots.size ≤ _); rw [arrV_size]; exact Classical.byContradiction hout) (g := F0 m pc ls (.int i :: .ref a :: rest)) rfl (rest := rest) rfl (by rw [hb]; exact hdg) t
  simp only [arrV_size] at h1
  exact h1 st
theorem vx_lastZ {D : va_G} {cl : List vw_C} {ws : va_W} {tys : List (ClassId × FieldType)} {a : Nat} (hexec : p.tables.exec = Jvm.exec) (hb : c.code = cc) (hK : va_K D cl tys s) (hP : va_P D cl ws H) (q0 t0 : Nat) {cA : ClassId} {n : Nat} {f : Nat → Int64} (ha : ws[q0]? = some (a, .inl (cA, n, .inr (.inl f)))) (ht : tys[t0]? = some (cA, .long)) {i : Int32} {x : Int64} (hout : ¬ vp_in i n) (hdg : decode cc pc = .ok (.lastore, 1))
    (k : ∀ tx : String, tx = (toString "Index " ++ toString i ++ toString " out of bounds for length " ++ toString n) → vx_Note p l e R s m args below meth c H locs cells slots Q (F0 m pc ls rest) "java/lang/ArrayIndexOutOfBoundsException" tx) : W p l e R s m args below meth c H locs cells slots Q (F0 m pc ls (.long x :: .int i :: .ref a :: rest)) := by
  intro T hT X
  obtain ⟨t, st, q⟩ := k _ rfl T hT X
  refine ⟨t, ?_, q⟩
  have h1 := X.lastoreOut hexec (by rw [hT]; exact hP q0 _ ha) ((hK.2 t0 _ ht).1 n (fun j => .long (f j))) (j := i) (by show (i < 0 ∨ (arrV _ _ _).slots.size ≤ _); rw [arrV_size]; exact Classical.byContradiction hout) (g := F0 m pc ls (.long x :: .int i :: .ref a :: rest)) rfl (rest := rest) rfl (by rw [hb]; exact hdg) t
  simp only [arrV_size] at h1
  exact h1 st
theorem vx_faldZ {D : va_G} {cl : List vw_C} {ws : va_W} {tys : List (ClassId × FieldType)} {a : Nat} (hexec : p.tables.exec = Jvm.exec) (hb : c.code = cc) (hK : va_K D cl tys s) (hP : va_P D cl ws H) (q0 t0 : Nat) {cA : ClassId} {n : Nat} {f : Nat → UInt32} (ha : ws[q0]? = some (a, .inl (cA, n, .inr (.inr (.inl f))))) (ht : tys[t0]? = some (cA, .float)) {i : Int32} (hout : ¬ vp_in i n) (hdg : decode cc pc = .ok (.faload, 1))
    (k : ∀ tx : String, tx = (toString "Index " ++ toString i ++ toString " out of bounds for length " ++ toString n) → vx_Note p l e R s m args below meth c H locs cells slots Q (F0 m pc ls rest) "java/lang/ArrayIndexOutOfBoundsException" tx) : W p l e R s m args below meth c H locs cells slots Q (F0 m pc ls (.int i :: .ref a :: rest)) := by
  intro T hT X
  obtain ⟨t, st, q⟩ := k _ rfl T hT X
  refine ⟨t, ?_, q⟩
  have h1 := X.faloadOut hexec (by rw [hT]; exact hP q0 _ ha) ((hK.2 t0 _ ht).1 n (fun j => .float (f j))) (j := i) (by show (i < 0 ∨ (arrV _ _ _).slots.size ≤ _); rw [arrV_size]; exact Classical.byContradiction hout) (g := F0 m pc ls (.int i :: .ref a :: rest)) rfl (rest := rest) rfl (by rw [hb]; exact hdg) t
  simp only [arrV_size] at h1
  exact h1 st
theorem vx_fastZ {D : va_G} {cl : List vw_C} {ws : va_W} {tys : List (ClassId × FieldType)} {a : Nat} (hexec : p.tables.exec = Jvm.exec) (hb : c.code = cc) (hK : va_K D cl tys s) (hP : va_P D cl ws H) (q0 t0 : Nat) {cA : ClassId} {n : Nat} {f : Nat → UInt32} (ha : ws[q0]? = some (a, .inl (cA, n, .inr (.inr (.inl f))))) (ht : tys[t0]? = some (cA, .float)) {i : Int32} {x : UInt32} (hout : ¬ vp_in i n) (hdg : decode cc pc = .ok (.fastore, 1))
    (k : ∀ tx : String, tx = (toString "Index " ++ toString i ++ toString " out of bounds for length " ++ toString n) → vx_Note p l e R s m args below meth c H locs cells slots Q (F0 m pc ls rest) "java/lang/ArrayIndexOutOfBoundsException" tx) : W p l e R s m args below meth c H locs cells slots Q (F0 m pc ls (.float x :: .int i :: .ref a :: rest)) := by
  intro T hT X
  obtain ⟨t, st, q⟩ := k _ rfl T hT X
  refine ⟨t, ?_, q⟩
  have h1 := X.fastoreOut hexec (by rw [hT]; exact hP q0 _ ha) ((hK.2 t0 _ ht).1 n (fun j => .float (f j))) (j := i) (by show (i < 0 ∨ (arrV _ _ _).slots.size ≤ _); rw [arrV_size]; exact Classical.byContradiction hout) (g := F0 m pc ls (.float x :: .int i :: .ref a :: rest)) rfl (rest := rest) rfl (by rw [hb]; exact hdg) t
  simp only [arrV_size] at h1
  exact h1 st
theorem vx_daldZ {D : va_G} {cl : List vw_C} {ws : va_W} {tys : List (ClassId × FieldType)} {a : Nat} (hexec : p.tables.exec = Jvm.exec) (hb : c.code = cc) (hK : va_K D cl tys s) (hP : va_P D cl ws H) (q0 t0 : Nat) {cA : ClassId} {n : Nat} {f : Nat → UInt64} (ha : ws[q0]? = some (a, .inl (cA, n, .inr (.inr (.inr (.inl f)))))) (ht : tys[t0]? = some (cA, .double)) {i : Int32} (hout : ¬ vp_in i n) (hdg : decode cc pc = .ok (.daload, 1))
    (k : ∀ tx : String, tx = (toString "Index " ++ toString i ++ toString " out of bounds for length " ++ toString n) → vx_Note p l e R s m args below meth c H locs cells slots Q (F0 m pc ls rest) "java/lang/ArrayIndexOutOfBoundsException" tx) : W p l e R s m args below meth c H locs cells slots Q (F0 m pc ls (.int i :: .ref a :: rest)) := by
  intro T hT X
  obtain ⟨t, st, q⟩ := k _ rfl T hT X
  refine ⟨t, ?_, q⟩
  have h1 := X.daloadOut hexec (by rw [hT]; exact hP q0 _ ha) ((hK.2 t0 _ ht).1 n (fun j => .double (f j))) (j := i) (by show (i < 0 ∨ (arrV _ _ _).slots.size ≤ _); rw [arrV_size]; exact Classical.byContradiction hout) (g := F0 m pc ls (.int i :: .ref a :: rest)) rfl (rest := rest) rfl (by rw [hb]; exact hdg) t
  simp only [arrV_size] at h1
  exact h1 st
theorem vx_dastZ {D : va_G} {cl : List vw_C} {ws : va_W} {tys : List (ClassId × FieldType)} {a : Nat} (hexec : p.tables.exec = Jvm.exec) (hb : c.code = cc) (hK : va_K D cl tys s) (hP : va_P D cl ws H) (q0 t0 : Nat) {cA : ClassId} {n : Nat} {f : Nat → UInt64} (ha : ws[q0]? = some (a, .inl (cA, n, .inr (.inr (.inr (.inl f)))))) (ht : tys[t0]? = some (cA, .double)) {i : Int32} {x : UInt64} (hout : ¬ vp_in i n) (hdg : decode cc pc = .ok (.dastore, 1))
    (k : ∀ tx : String, tx = (toString "Index " ++ toString i ++ toString " out of bounds for length " ++ toString n) → vx_Note p l e R s m args below meth c H locs cells slots Q (F0 m pc ls rest) "java/lang/ArrayIndexOutOfBoundsException" tx) : W p l e R s m args below meth c H locs cells slots Q (F0 m pc ls (.double x :: .int i :: .ref a :: rest)) := by
  intro T hT X
  obtain ⟨t, st, q⟩ := k _ rfl T hT X
  refine ⟨t, ?_, q⟩
  have h1 := X.dastoreOut hexec (by rw [hT]; exact hP q0 _ ha) ((hK.2 t0 _ ht).1 n (fun j => .double (f j))) (j := i) (by show (i < 0 ∨ (arrV _ _ _).slots.size ≤ _); rw [arrV_size]; exact Classical.byContradiction hout) (g := F0 m pc ls (.double x :: .int i :: .ref a :: rest)) rfl (rest := rest) rfl (by rw [hb]; exact hdg) t
  simp only [arrV_size] at h1
  exact h1 st
theorem vx_arraylengthN (hexec : p.tables.exec = Jvm.exec) (hb : c.code = cc) (hdg : decode cc pc = .ok (.arraylength, 1)) (k : vx_NoteN p l e R s m args below meth c H locs cells slots Q (F0 m pc ls rest)) : W p l e R s m args below meth c H locs cells slots Q (F0 m pc ls (.null :: rest)) := by
  intro T hT X
  obtain ⟨t, st, q⟩ := k T hT X
  exact ⟨t, X.arraylengthNull hexec (g := F0 m pc ls (.null :: rest)) rfl (rest := rest) rfl (by rw [hb]; exact hdg) t st, q⟩
theorem vx_ialoadN (hexec : p.tables.exec = Jvm.exec) (hb : c.code = cc) {i : Int32} (hdg : decode cc pc = .ok (.iaload, 1)) (k : vx_NoteN p l e R s m args below meth c H locs cells slots Q (F0 m pc ls rest)) : W p l e R s m args below meth c H locs cells slots Q (F0 m pc ls (.int i :: .null :: rest)) := by
  intro T hT X
  obtain ⟨t, st, q⟩ := k T hT X
  exact ⟨t, X.ialoadNull hexec (g := F0 m pc ls (.int i :: .null :: rest)) rfl (rest := rest) rfl (by rw [hb]; exact hdg) t st, q⟩
theorem vx_laloadN (hexec : p.tables.exec = Jvm.exec) (hb : c.code = cc) {i : Int32} (hdg : decode cc pc = .ok (.laload, 1)) (k : vx_NoteN p l e R s m args below meth c H locs cells slots Q (F0 m pc ls rest)) : W p l e R s m args below meth c H locs cells slots Q (F0 m pc ls (.int i :: .null :: rest)) := by
  intro T hT X
  obtain ⟨t, st, q⟩ := k T hT X
  exact ⟨t, X.laloadNull hexec (g := F0 m pc ls (.int i :: .null :: rest)) rfl (rest := rest) rfl (by rw [hb]; exact hdg) t st, q⟩
theorem vx_faloadN (hexec : p.tables.exec = Jvm.exec) (hb : c.code = cc) {i : Int32} (hdg : decode cc pc = .ok (.faload, 1)) (k : vx_NoteN p l e R s m args below meth c H locs cells slots Q (F0 m pc ls rest)) : W p l e R s m args below meth c H locs cells slots Q (F0 m pc ls (.int i :: .null :: rest)) := by
  intro T hT X
  obtain ⟨t, st, q⟩ := k T hT X
  exact ⟨t, X.faloadNull hexec (g := F0 m pc ls (.int i :: .null :: rest)) rfl (rest := rest) rfl (by rw [hb]; exact hdg) t st, q⟩
theorem vx_daloadN (hexec : p.tables.exec = Jvm.exec) (hb : c.code = cc) {i : Int32} (hdg : decode cc pc = .ok (.daload, 1)) (k : vx_NoteN p l e R s m args below meth c H locs cells slots Q (F0 m pc ls rest)) : W p l e R s m args below meth c H locs cells slots Q (F0 m pc ls (.int i :: .null :: rest)) := by
  intro T hT X
  obtain ⟨t, st, q⟩ := k T hT X
  exact ⟨t, X.daloadNull hexec (g := F0 m pc ls (.int i :: .null :: rest)) rfl (rest := rest) rfl (by rw [hb]; exact hdg) t st, q⟩
theorem vx_aaloadN (hexec : p.tables.exec = Jvm.exec) (hb : c.code = cc) {i : Int32} (hdg : decode cc pc = .ok (.aaload, 1)) (k : vx_NoteN p l e R s m args below meth c H locs cells slots Q (F0 m pc ls rest)) : W p l e R s m args below meth c H locs cells slots Q (F0 m pc ls (.int i :: .null :: rest)) := by
  intro T hT X
  obtain ⟨t, st, q⟩ := k T hT X
  exact ⟨t, X.aaloadNull hexec (g := F0 m pc ls (.int i :: .null :: rest)) rfl (rest := rest) rfl (by rw [hb]; exact hdg) t st, q⟩
theorem vx_baloadN (hexec : p.tables.exec = Jvm.exec) (hb : c.code = cc) {i : Int32} (hdg : decode cc pc = .ok (.baload, 1)) (k : vx_NoteN p l e R s m args below meth c H locs cells slots Q (F0 m pc ls rest)) : W p l e R s m args below meth c H locs cells slots Q (F0 m pc ls (.int i :: .null :: rest)) := by
  intro T hT X
  obtain ⟨t, st, q⟩ := k T hT X
  exact ⟨t, X.baloadNull hexec (g := F0 m pc ls (.int i :: .null :: rest)) rfl (rest := rest) rfl (by rw [hb]; exact hdg) t st, q⟩
theorem vx_caloadN (hexec : p.tables.exec = Jvm.exec) (hb : c.code = cc) {i : Int32} (hdg : decode cc pc = .ok (.caload, 1)) (k : vx_NoteN p l e R s m args below meth c H locs cells slots Q (F0 m pc ls rest)) : W p l e R s m args below meth c H locs cells slots Q (F0 m pc ls (.int i :: .null :: rest)) := by
  intro T hT X
  obtain ⟨t, st, q⟩ := k T hT X
  exact ⟨t, X.caloadNull hexec (g := F0 m pc ls (.int i :: .null :: rest)) rfl (rest := rest) rfl (by rw [hb]; exact hdg) t st, q⟩
theorem vx_saloadN (hexec : p.tables.exec = Jvm.exec) (hb : c.code = cc) {i : Int32} (hdg : decode cc pc = .ok (.saload, 1)) (k : vx_NoteN p l e R s m args below meth c H locs cells slots Q (F0 m pc ls rest)) : W p l e R s m args below meth c H locs cells slots Q (F0 m pc ls (.int i :: .null :: rest)) := by
  intro T hT X
  obtain ⟨t, st, q⟩ := k T hT X
  exact ⟨t, X.saloadNull hexec (g := F0 m pc ls (.int i :: .null :: rest)) rfl (rest := rest) rfl (by rw [hb]; exact hdg) t st, q⟩
theorem vx_iastoreN (hexec : p.tables.exec = Jvm.exec) (hb : c.code = cc) {x : Int32} {i : Int32} (hdg : decode cc pc = .ok (.iastore, 1)) (k : vx_NoteN p l e R s m args below meth c H locs cells slots Q (F0 m pc ls rest)) : W p l e R s m args below meth c H locs cells slots Q (F0 m pc ls (.int x :: .int i :: .null :: rest)) := by
  intro T hT X
  obtain ⟨t, st, q⟩ := k T hT X
  exact ⟨t, X.iastoreNull hexec (g := F0 m pc ls (.int x :: .int i :: .null :: rest)) rfl (rest := rest) rfl (by rw [hb]; exact hdg) t st, q⟩
theorem vx_lastoreN (hexec : p.tables.exec = Jvm.exec) (hb : c.code = cc) {x : Int64} {i : Int32} (hdg : decode cc pc = .ok (.lastore, 1)) (k : vx_NoteN p l e R s m args below meth c H locs cells slots Q (F0 m pc ls rest)) : W p l e R s m args below meth c H locs cells slots Q (F0 m pc ls (.long x :: .int i :: .null :: rest)) := by
  intro T hT X
  obtain ⟨t, st, q⟩ := k T hT X
  exact ⟨t, X.lastoreNull hexec (g := F0 m pc ls (.long x :: .int i :: .null :: rest)) rfl (rest := rest) rfl (by rw [hb]; exact hdg) t st, q⟩
theorem vx_fastoreN (hexec : p.tables.exec = Jvm.exec) (hb : c.code = cc) {x : UInt32} {i : Int32} (hdg : decode cc pc = .ok (.fastore, 1)) (k : vx_NoteN p l e R s m args below meth c H locs cells slots Q (F0 m pc ls rest)) : W p l e R s m args below meth c H locs cells slots Q (F0 m pc ls (.float x :: .int i :: .null :: rest)) := by
  intro T hT X
  obtain ⟨t, st, q⟩ := k T hT X
  exact ⟨t, X.fastoreNull hexec (g := F0 m pc ls (.float x :: .int i :: .null :: rest)) rfl (rest := rest) rfl (by rw [hb]; exact hdg) t st, q⟩
theorem vx_dastoreN (hexec : p.tables.exec = Jvm.exec) (hb : c.code = cc) {x : UInt64} {i : Int32} (hdg : decode cc pc = .ok (.dastore, 1)) (k : vx_NoteN p l e R s m args below meth c H locs cells slots Q (F0 m pc ls rest)) : W p l e R s m args below meth c H locs cells slots Q (F0 m pc ls (.double x :: .int i :: .null :: rest)) := by
  intro T hT X
  obtain ⟨t, st, q⟩ := k T hT X
  exact ⟨t, X.dastoreNull hexec (g := F0 m pc ls (.double x :: .int i :: .null :: rest)) rfl (rest := rest) rfl (by rw [hb]; exact hdg) t st, q⟩
theorem vx_bastoreN (hexec : p.tables.exec = Jvm.exec) (hb : c.code = cc) {x : Int32} {i : Int32} (hdg : decode cc pc = .ok (.bastore, 1)) (k : vx_NoteN p l e R s m args below meth c H locs cells slots Q (F0 m pc ls rest)) : W p l e R s m args below meth c H locs cells slots Q (F0 m pc ls (.int x :: .int i :: .null :: rest)) := by
  intro T hT X
  obtain ⟨t, st, q⟩ := k T hT X
  exact ⟨t, X.bastoreNull hexec (g := F0 m pc ls (.int x :: .int i :: .null :: rest)) rfl (rest := rest) rfl (by rw [hb]; exact hdg) t st, q⟩
theorem vx_castoreN (hexec : p.tables.exec = Jvm.exec) (hb : c.code = cc) {x : Int32} {i : Int32} (hdg : decode cc pc = .ok (.castore, 1)) (k : vx_NoteN p l e R s m args below meth c H locs cells slots Q (F0 m pc ls rest)) : W p l e R s m args below meth c H locs cells slots Q (F0 m pc ls (.int x :: .int i :: .null :: rest)) := by
  intro T hT X
  obtain ⟨t, st, q⟩ := k T hT X
  exact ⟨t, X.castoreNull hexec (g := F0 m pc ls (.int x :: .int i :: .null :: rest)) rfl (rest := rest) rfl (by rw [hb]; exact hdg) t st, q⟩
theorem vx_sastoreN (hexec : p.tables.exec = Jvm.exec) (hb : c.code = cc) {x : Int32} {i : Int32} (hdg : decode cc pc = .ok (.sastore, 1)) (k : vx_NoteN p l e R s m args below meth c H locs cells slots Q (F0 m pc ls rest)) : W p l e R s m args below meth c H locs cells slots Q (F0 m pc ls (.int x :: .int i :: .null :: rest)) := by
  intro T hT X
  obtain ⟨t, st, q⟩ := k T hT X
  exact ⟨t, X.sastoreNull hexec (g := F0 m pc ls (.int x :: .int i :: .null :: rest)) rfl (rest := rest) rfl (by rw [hb]; exact hdg) t st, q⟩
theorem vx_invokeN {own C : String} {index maxL : Nat} {y : MethodName} {bytes : ByteArray} {ret : Option FieldType} (hexec : p.tables.exec = Jvm.exec) (hb : c.code = cc) (hown : s.vm.findClass own = some m.cls) (hlink : (Cond.methodLink own index y).before args s = true) (hinst : (Cond.instanceMethod y).before args s = true) (hcode : (Cond.code y bytes maxL ret).before args s = true) (hsel : (Cond.selects C y y).before args s = true)
    (hx : y.cls ≠ "java/lang/invoke/MethodHandle" ∧ y.cls ≠ "java/lang/invoke/VarHandle") {As : List Value} (hlen : (parseMethodDescriptor y.desc).map (fun d => d.parameters.length) = some As.length) (hdg : decode cc pc = .ok (.invokevirtual index, 3))
    (k : vx_NoteN p l e R s m args below meth c H locs cells slots Q (F0 m pc ls rest)) {st0 : List Value} (hst : st0 = As.reverse ++ .null :: rest) : W p l e R s m args below meth c H locs cells slots Q (F0 m pc ls st0) := by
  intro T hT X
  obtain ⟨r0, r, hn, hrm, hstR, hsigR⟩ := va_Decl.of hinst hcode
  obtain ⟨c2, r2, m2, q1, q2, q3, q4, kP, hkP, hkPi⟩ := Cond.selects_spec hsel
  cases hn.symm.trans q3
  have hl9 : As.length = r.sig.parameters.length := by
    rw [hsigR] at hlen
    exact (Option.some.inj hlen).symm
  obtain ⟨vm', X1, st1⟩ := X.invokevirtualNull hexec hown hlink hn hrm hstR hkP hkPi hx (g := F0 m pc ls st0) rfl (argsL := As) (rest := rest) hl9 hst (by rw [hb]; exact hdg)
  obtain ⟨t, st, q⟩ := k (T.setVm vm') hT X1
  exact ⟨t, st1 t st, q⟩
theorem vx_newarrayZ {atype : ArrayType} (hexec : p.tables.exec = Jvm.exec) (hb : c.code = cc) {n : Int32} (h0 : n < 0) (hdg : decode cc pc = .ok (.newarray atype, 2)) (k : ∀ tx : String, tx = toString n → vx_Note p l e R s m args below meth c H locs cells slots Q (F0 m pc ls rest) "java/lang/NegativeArraySizeException" tx) : W p l e R s m args below meth c H locs cells slots Q (F0 m pc ls (.int n :: rest)) := by
  intro T hT X
  obtain ⟨t, st, q⟩ := k _ rfl T hT X
  exact ⟨t, X.newarrayNegative hexec (g := F0 m pc ls (.int n :: rest)) rfl h0 (rest := rest) rfl (by rw [hb]; exact hdg) t st, q⟩
end
end VXM
/-! ===== END ===== -/
end
section
/-! ===== BEGIN printed: names, fields, word lists, decode rows ===== -/
def RX0 : String := "TypedHall$GridItem"
def TX0 : u_T := fun k => match k with
  | _ => ("TypedHall$GridItem", "rows", "[[I", true)
def tyX0 : Nat → FieldType := fun k => match k with
  | _ => .array (.array .int)
abbrev wsX00 : List Cond := u_ws RX0 TX0 1
theorem nmX0 : ∀ a, a < 1 → ∀ b, b < 1 → a ≠ b → (TX0 a).2.1 ≠ (TX0 b).2.1 := by decide +kernel
theorem tyX0_ok : ∀ k, k < 1 → parseFieldDescriptor (TX0 k).2.2.1 = some (tyX0 k) := by decide +kernel
abbrev cX0_init : ByteArray := prog_2_method_1_code
def yX0_init : MethodName := ⟨RX0, "<init>", "(II)V"⟩
abbrev cX0_sort : ByteArray := prog_2_method_2_code
def yX0_sort : MethodName := ⟨RX0, "sort", "()I"⟩
def RX1 : String := "TypedHall$Item"
def TX1 : u_T := fun k => match k with
  | _ => ("", "", "", false)
def tyX1 : Nat → FieldType := fun k => match k with
  | _ => .int
abbrev wsX10 : List Cond := u_ws RX1 TX1 0
theorem nmX1 : ∀ a, a < 0 → ∀ b, b < 0 → a ≠ b → (TX1 a).2.1 ≠ (TX1 b).2.1 := by decide +kernel
theorem tyX1_ok : ∀ k, k < 0 → parseFieldDescriptor (TX1 k).2.2.1 = some (tyX1 k) := by decide +kernel
abbrev cX1_init : ByteArray := prog_3_method_1_code
def yX1_init : MethodName := ⟨RX1, "<init>", "()V"⟩
abbrev cX1_ground : ByteArray := prog_3_method_3_code
def yX1_ground : MethodName := ⟨RX1, "ground", "()LTypedHall$VectorItem;"⟩
abbrev cX1_shift : ByteArray := prog_3_method_4_code
def yX1_shift : MethodName := ⟨RX1, "shift", "()I"⟩
abbrev cX1_windows : ByteArray := prog_3_method_5_code
def yX1_windows : MethodName := ⟨RX1, "windows", "()I"⟩
def RX2 : String := "TypedHall$RecordItem"
def TX2 : u_T := fun k => match k with
  | 0 => ("TypedHall$RecordItem", "number", "J", false)
  | _ => ("TypedHall$RecordItem", "next", "LTypedHall$RecordItem;", false)
def tyX2 : Nat → FieldType := fun k => match k with
  | 0 => .long
  | _ => .object "TypedHall$RecordItem"
abbrev wsX20 : List Cond := u_ws RX2 TX2 2
theorem nmX2 : ∀ a, a < 2 → ∀ b, b < 2 → a ≠ b → (TX2 a).2.1 ≠ (TX2 b).2.1 := by decide +kernel
theorem tyX2_ok : ∀ k, k < 2 → parseFieldDescriptor (TX2 k).2.2.1 = some (tyX2 k) := by decide +kernel
abbrev cX2_init : ByteArray := prog_4_method_1_code
def yX2_init : MethodName := ⟨RX2, "<init>", "()V"⟩
abbrev cX2_sort : ByteArray := prog_4_method_2_code
def yX2_sort : MethodName := ⟨RX2, "sort", "()I"⟩
def RX3 : String := "TypedHall$VectorItem"
def TX3 : u_T := fun k => match k with
  | 0 => ("TypedHall$VectorItem", "sort", "I", true)
  | 1 => ("TypedHall$VectorItem", "numbers", "[J", false)
  | _ => ("TypedHall$VectorItem", "items", "[LTypedHall$Item;", false)
def tyX3 : Nat → FieldType := fun k => match k with
  | 0 => .int
  | 1 => .array .long
  | _ => .array (.object "TypedHall$Item")
abbrev wsX30 : List Cond := u_ws RX3 TX3 3
theorem nmX3 : ∀ a, a < 3 → ∀ b, b < 3 → a ≠ b → (TX3 a).2.1 ≠ (TX3 b).2.1 := by decide +kernel
theorem tyX3_ok : ∀ k, k < 3 → parseFieldDescriptor (TX3 k).2.2.1 = some (tyX3 k) := by decide +kernel
abbrev cX3_init : ByteArray := prog_5_method_1_code
def yX3_init : MethodName := ⟨RX3, "<init>", "(II)V"⟩
abbrev cX3_sort : ByteArray := prog_5_method_2_code
def yX3_sort : MethodName := ⟨RX3, "sort", "()I"⟩
abbrev cX3_ground : ByteArray := prog_5_method_3_code
def yX3_ground : MethodName := ⟨RX3, "ground", "()LTypedHall$VectorItem;"⟩
abbrev cX3_isLost : ByteArray := prog_5_method_4_code
def yX3_isLost : MethodName := ⟨RX3, "isLost", "()Z"⟩
abbrev cX3_length : ByteArray := prog_5_method_5_code
def yX3_length : MethodName := ⟨RX3, "length", "()I"⟩
abbrev cX3_dropStorage : ByteArray := prog_5_method_6_code
def yX3_dropStorage : MethodName := ⟨RX3, "dropStorage", "()V"⟩
abbrev cX3_changeLength : ByteArray := prog_5_method_7_code
def yX3_changeLength : MethodName := ⟨RX3, "changeLength", "(I)I"⟩
abbrev cX3_firstItems : ByteArray := prog_5_method_8_code
def yX3_firstItems : MethodName := ⟨RX3, "firstItems", "(II)[LTypedHall$Item;"⟩
def RX4 : String := "TypedHall$WindowItem"
def TX4 : u_T := fun k => match k with
  | 0 => ("TypedHall$WindowItem", "ground", "LTypedHall$VectorItem;", true)
  | 1 => ("TypedHall$WindowItem", "shift", "I", true)
  | _ => ("TypedHall$WindowItem", "windows", "I", true)
def tyX4 : Nat → FieldType := fun k => match k with
  | 0 => .object "TypedHall$VectorItem"
  | 1 => .int
  | _ => .int
abbrev wsX40 : List Cond := u_ws RX4 TX4 3
theorem nmX4 : ∀ a, a < 3 → ∀ b, b < 3 → a ≠ b → (TX4 a).2.1 ≠ (TX4 b).2.1 := by decide +kernel
theorem tyX4_ok : ∀ k, k < 3 → parseFieldDescriptor (TX4 k).2.2.1 = some (tyX4 k) := by decide +kernel
abbrev cX4_init : ByteArray := prog_6_method_1_code
def yX4_init : MethodName := ⟨RX4, "<init>", "(LTypedHall$VectorItem;II)V"⟩
abbrev cX4_sort : ByteArray := prog_6_method_2_code
def yX4_sort : MethodName := ⟨RX4, "sort", "()I"⟩
abbrev cX4_ground : ByteArray := prog_6_method_3_code
def yX4_ground : MethodName := ⟨RX4, "ground", "()LTypedHall$VectorItem;"⟩
abbrev cX4_shift : ByteArray := prog_6_method_4_code
def yX4_shift : MethodName := ⟨RX4, "shift", "()I"⟩
abbrev cX4_windows : ByteArray := prog_6_method_5_code
def yX4_windows : MethodName := ⟨RX4, "windows", "()I"⟩
def RX5 : String := "TypedHall"
def TX5 : u_T := fun k => match k with
  | 0 => ("TypedHall", "held", "[LTypedHall$Item;", true)
  | _ => ("TypedHall", "made", "I", false)
def tyX5 : Nat → FieldType := fun k => match k with
  | 0 => .array (.object "TypedHall$Item")
  | _ => .int
abbrev wsX50 : List Cond := u_ws RX5 TX5 2
theorem nmX5 : ∀ a, a < 2 → ∀ b, b < 2 → a ≠ b → (TX5 a).2.1 ≠ (TX5 b).2.1 := by decide +kernel
theorem tyX5_ok : ∀ k, k < 2 → parseFieldDescriptor (TX5 k).2.2.1 = some (tyX5 k) := by decide +kernel
abbrev cX5_init : ByteArray := prog_1_method_1_code
def yX5_init : MethodName := ⟨RX5, "<init>", "()V"⟩
abbrev cX5_make : ByteArray := prog_1_method_2_code
def yX5_make : MethodName := ⟨RX5, "make", "(III)I"⟩
abbrev cX5_grid : ByteArray := prog_1_method_3_code
def yX5_grid : MethodName := ⟨RX5, "grid", "(III)I"⟩
abbrev cX5_record : ByteArray := prog_1_method_4_code
def yX5_record : MethodName := ⟨RX5, "record", "(I)I"⟩
abbrev cX5_window : ByteArray := prog_1_method_5_code
def yX5_window : MethodName := ⟨RX5, "window", "(III)I"⟩
abbrev cX5_copy : ByteArray := prog_1_method_6_code
def yX5_copy : MethodName := ⟨RX5, "copy", "(II)Z"⟩
abbrev cX5_lose : ByteArray := prog_1_method_7_code
def yX5_lose : MethodName := ⟨RX5, "lose", "(II)I"⟩
abbrev cX5_resize : ByteArray := prog_1_method_8_code
def yX5_resize : MethodName := ⟨RX5, "resize", "(II)I"⟩
abbrev cX5_size : ByteArray := prog_1_method_9_code
def yX5_size : MethodName := ⟨RX5, "size", "(I)I"⟩
abbrev cX5_take : ByteArray := prog_1_method_10_code
def yX5_take : MethodName := ⟨RX5, "take", "(II)J"⟩
abbrev cX5_put : ByteArray := prog_1_method_11_code
def yX5_put : MethodName := ⟨RX5, "put", "(IIJ)J"⟩
abbrev cX5_cell : ByteArray := prog_1_method_12_code
def yX5_cell : MethodName := ⟨RX5, "cell", "(III)I"⟩
abbrev cX5_setCell : ByteArray := prog_1_method_13_code
def yX5_setCell : MethodName := ⟨RX5, "setCell", "(IIIII)V"⟩
abbrev cX5_refer : ByteArray := prog_1_method_14_code
def yX5_refer : MethodName := ⟨RX5, "refer", "(III)V"⟩
abbrev cX5_fetch : ByteArray := prog_1_method_15_code
def yX5_fetch : MethodName := ⟨RX5, "fetch", "(III)I"⟩
abbrev cX5_link : ByteArray := prog_1_method_16_code
def yX5_link : MethodName := ⟨RX5, "link", "(II)V"⟩
abbrev cX5_follow : ByteArray := prog_1_method_17_code
def yX5_follow : MethodName := ⟨RX5, "follow", "(II)Z"⟩
abbrev cX5_exchange : ByteArray := prog_1_method_18_code
def yX5_exchange : MethodName := ⟨RX5, "exchange", "(IJ)J"⟩
abbrev cX5_total : ByteArray := prog_1_method_19_code
def yX5_total : MethodName := ⟨RX5, "total", "(I)J"⟩
abbrev cX5_combine : ByteArray := prog_1_method_20_code
def yX5_combine : MethodName := ⟨RX5, "combine", "(IIIII)J"⟩
abbrev cX5_move : ByteArray := prog_1_method_21_code
def yX5_move : MethodName := ⟨RX5, "move", "(IIIII)I"⟩
abbrev cX5_holdNew : ByteArray := prog_1_method_22_code
def yX5_holdNew : MethodName := ⟨RX5, "holdNew", "(ILTypedHall$Item;)I"⟩
abbrev cX5_itemIn : ByteArray := prog_1_method_23_code
def yX5_itemIn : MethodName := ⟨RX5, "itemIn", "(I)LTypedHall$Item;"⟩
abbrev cX5_vectorOf : ByteArray := prog_1_method_24_code
def yX5_vectorOf : MethodName := ⟨RX5, "vectorOf", "(LTypedHall$Item;)LTypedHall$VectorItem;"⟩
abbrev cX5_gridIn : ByteArray := prog_1_method_25_code
def yX5_gridIn : MethodName := ⟨RX5, "gridIn", "(I)LTypedHall$GridItem;"⟩
abbrev cX5_recordIn : ByteArray := prog_1_method_26_code
def yX5_recordIn : MethodName := ⟨RX5, "recordIn", "(I)LTypedHall$RecordItem;"⟩
abbrev cX5_recordOrNone : ByteArray := prog_1_method_27_code
def yX5_recordOrNone : MethodName := ⟨RX5, "recordOrNone", "(I)LTypedHall$RecordItem;"⟩
abbrev cX5_loseRow : ByteArray := prog_1_method_28_code
def yX5_loseRow : MethodName := ⟨RX5, "loseRow", "(LTypedHall$GridItem;I)I"⟩
abbrev cX5_loseStorage : ByteArray := prog_1_method_29_code
def yX5_loseStorage : MethodName := ⟨RX5, "loseStorage", "(LTypedHall$VectorItem;)I"⟩
abbrev cX5_takeElement : ByteArray := prog_1_method_30_code
def yX5_takeElement : MethodName := ⟨RX5, "takeElement", "(LTypedHall$Item;I)J"⟩
abbrev cX5_putElement : ByteArray := prog_1_method_31_code
def yX5_putElement : MethodName := ⟨RX5, "putElement", "(LTypedHall$Item;IJ)J"⟩
abbrev cX5_placeOf : ByteArray := prog_1_method_32_code
def yX5_placeOf : MethodName := ⟨RX5, "placeOf", "(LTypedHall$Item;I)I"⟩
abbrev cX5_fitted : ByteArray := prog_1_method_33_code
def yX5_fitted : MethodName := ⟨RX5, "fitted", "(IJ)J"⟩
abbrev cX5_reckon : ByteArray := prog_1_method_34_code
def yX5_reckon : MethodName := ⟨RX5, "reckon", "(IJJ)J"⟩
abbrev cX5_requireRegister : ByteArray := prog_1_method_35_code
def yX5_requireRegister : MethodName := ⟨RX5, "requireRegister", "(I)V"⟩
abbrev cX5_requireArgument : ByteArray := prog_1_method_36_code
def yX5_requireArgument : MethodName := ⟨RX5, "requireArgument", "(Z)V"⟩
abbrev cX5_requireSupported : ByteArray := prog_1_method_37_code
def yX5_requireSupported : MethodName := ⟨RX5, "requireSupported", "(Z)V"⟩
abbrev cX5_requireDivisor : ByteArray := prog_1_method_38_code
def yX5_requireDivisor : MethodName := ⟨RX5, "requireDivisor", "(J)V"⟩
abbrev cX5_requireCell : ByteArray := prog_1_method_39_code
def yX5_requireCell : MethodName := ⟨RX5, "requireCell", "([II)V"⟩
abbrev cX5_requirePresent : ByteArray := prog_1_method_40_code
def yX5_requirePresent : MethodName := ⟨RX5, "requirePresent", "(Z)V"⟩
abbrev cX5_requireIndex : ByteArray := prog_1_method_41_code
def yX5_requireIndex : MethodName := ⟨RX5, "requireIndex", "(II)V"⟩
abbrev cX5_requireSize : ByteArray := prog_1_method_42_code
def yX5_requireSize : MethodName := ⟨RX5, "requireSize", "(I)V"⟩
def RX6 : String := "TypedHallModel"
def TX6 : u_T := fun k => match k with
  | 0 => ("TypedHallModel", "register", "[I", true)
  | 1 => ("TypedHallModel", "kind", "[I", true)
  | 2 => ("TypedHallModel", "length", "[I", true)
  | 3 => ("TypedHallModel", "width", "[I", true)
  | 4 => ("TypedHallModel", "base", "[I", true)
  | 5 => ("TypedHallModel", "offset", "[I", true)
  | 6 => ("TypedHallModel", "strip", "[J", true)
  | 7 => ("TypedHallModel", "lost", "[Z", true)
  | 8 => ("TypedHallModel", "made", "I", false)
  | 9 => ("TypedHallModel", "vector", "I", false)
  | 10 => ("TypedHallModel", "element", "I", false)
  | _ => ("TypedHallModel", "code", "I", false)
def tyX6 : Nat → FieldType := fun k => match k with
  | 0 => .array .int
  | 1 => .array .int
  | 2 => .array .int
  | 3 => .array .int
  | 4 => .array .int
  | 5 => .array .int
  | 6 => .array .long
  | 7 => .array .boolean
  | 8 => .int
  | 9 => .int
  | 10 => .int
  | _ => .int
abbrev wsX60 : List Cond := u_ws RX6 TX6 12
theorem nmX6 : ∀ a, a < 12 → ∀ b, b < 12 → a ≠ b → (TX6 a).2.1 ≠ (TX6 b).2.1 := by decide +kernel
theorem tyX6_ok : ∀ k, k < 12 → parseFieldDescriptor (TX6 k).2.2.1 = some (tyX6 k) := by decide +kernel
abbrev cX6_init : ByteArray := prog_8_method_1_code
def yX6_init : MethodName := ⟨RX6, "<init>", "()V"⟩
abbrev cX6_thrown : ByteArray := prog_8_method_2_code
def yX6_thrown : MethodName := ⟨RX6, "thrown", "()I"⟩
abbrev cX6_in : ByteArray := prog_8_method_3_code
def yX6_in : MethodName := ⟨RX6, "in", "(III)Z"⟩
abbrev cX6_good : ByteArray := prog_8_method_4_code
def yX6_good : MethodName := ⟨RX6, "good", "(ZI)Z"⟩
abbrev cX6_known : ByteArray := prog_8_method_5_code
def yX6_known : MethodName := ⟨RX6, "known", "(II)Z"⟩
abbrev cX6_fresh : ByteArray := prog_8_method_6_code
def yX6_fresh : MethodName := ⟨RX6, "fresh", "(III)I"⟩
abbrev cX6_make : ByteArray := prog_8_method_7_code
def yX6_make : MethodName := ⟨RX6, "make", "(III)I"⟩
abbrev cX6_grid : ByteArray := prog_8_method_8_code
def yX6_grid : MethodName := ⟨RX6, "grid", "(III)I"⟩
abbrev cX6_record : ByteArray := prog_8_method_9_code
def yX6_record : MethodName := ⟨RX6, "record", "(I)I"⟩
abbrev cX6_bottom : ByteArray := prog_8_method_10_code
def yX6_bottom : MethodName := ⟨RX6, "bottom", "(I)I"⟩
abbrev cX6_sort : ByteArray := prog_8_method_11_code
def yX6_sort : MethodName := ⟨RX6, "sort", "(I)I"⟩
abbrev cX6_windows : ByteArray := prog_8_method_12_code
def yX6_windows : MethodName := ⟨RX6, "windows", "(I)I"⟩
abbrev cX6_window : ByteArray := prog_8_method_13_code
def yX6_window : MethodName := ⟨RX6, "window", "(III)I"⟩
abbrev cX6_copy : ByteArray := prog_8_method_14_code
def yX6_copy : MethodName := ⟨RX6, "copy", "(II)Z"⟩
abbrev cX6_lose : ByteArray := prog_8_method_15_code
def yX6_lose : MethodName := ⟨RX6, "lose", "(II)I"⟩
abbrev cX6_resize : ByteArray := prog_8_method_16_code
def yX6_resize : MethodName := ⟨RX6, "resize", "(II)I"⟩
abbrev cX6_size : ByteArray := prog_8_method_17_code
def yX6_size : MethodName := ⟨RX6, "size", "(I)I"⟩
abbrev cX6_find : ByteArray := prog_8_method_18_code
def yX6_find : MethodName := ⟨RX6, "find", "(II)I"⟩
abbrev cX6_fit : ByteArray := prog_8_method_19_code
def yX6_fit : MethodName := ⟨RX6, "fit", "(IJ)J"⟩
abbrev cX6_here : ByteArray := prog_8_method_20_code
def yX6_here : MethodName := ⟨RX6, "here", "()J"⟩
abbrev cX6_set : ByteArray := prog_8_method_21_code
def yX6_set : MethodName := ⟨RX6, "set", "(J)J"⟩
abbrev cX6_reach : ByteArray := prog_8_method_22_code
def yX6_reach : MethodName := ⟨RX6, "reach", "(III)Z"⟩
abbrev cX6_take : ByteArray := prog_8_method_23_code
def yX6_take : MethodName := ⟨RX6, "take", "(II)J"⟩
abbrev cX6_put : ByteArray := prog_8_method_24_code
def yX6_put : MethodName := ⟨RX6, "put", "(IIJ)J"⟩
abbrev cX6_row : ByteArray := prog_8_method_25_code
def yX6_row : MethodName := ⟨RX6, "row", "(II)Z"⟩
abbrev cX6_column : ByteArray := prog_8_method_26_code
def yX6_column : MethodName := ⟨RX6, "column", "(III)Z"⟩
abbrev cX6_cell : ByteArray := prog_8_method_27_code
def yX6_cell : MethodName := ⟨RX6, "cell", "(III)I"⟩
abbrev cX6_setCell : ByteArray := prog_8_method_28_code
def yX6_setCell : MethodName := ⟨RX6, "setCell", "(IIIII)V"⟩
abbrev cX6_reachItem : ByteArray := prog_8_method_29_code
def yX6_reachItem : MethodName := ⟨RX6, "reachItem", "(II)Z"⟩
abbrev cX6_refer : ByteArray := prog_8_method_30_code
def yX6_refer : MethodName := ⟨RX6, "refer", "(III)V"⟩
abbrev cX6_fetch : ByteArray := prog_8_method_31_code
def yX6_fetch : MethodName := ⟨RX6, "fetch", "(III)I"⟩
abbrev cX6_isRecord : ByteArray := prog_8_method_32_code
def yX6_isRecord : MethodName := ⟨RX6, "isRecord", "(I)Z"⟩
abbrev cX6_link : ByteArray := prog_8_method_33_code
def yX6_link : MethodName := ⟨RX6, "link", "(II)V"⟩
abbrev cX6_follow : ByteArray := prog_8_method_34_code
def yX6_follow : MethodName := ⟨RX6, "follow", "(II)Z"⟩
abbrev cX6_exchange : ByteArray := prog_8_method_35_code
def yX6_exchange : MethodName := ⟨RX6, "exchange", "(IJ)J"⟩
abbrev cX6_total : ByteArray := prog_8_method_36_code
def yX6_total : MethodName := ⟨RX6, "total", "(I)J"⟩
abbrev cX6_both : ByteArray := prog_8_method_37_code
def yX6_both : MethodName := ⟨RX6, "both", "(III)Z"⟩
abbrev cX6_reckon : ByteArray := prog_8_method_38_code
def yX6_reckon : MethodName := ⟨RX6, "reckon", "(IJJ)J"⟩
abbrev cX6_combine : ByteArray := prog_8_method_39_code
def yX6_combine : MethodName := ⟨RX6, "combine", "(IIIII)J"⟩
abbrev cX6_move : ByteArray := prog_8_method_40_code
def yX6_move : MethodName := ⟨RX6, "move", "(IIIII)I"⟩
def RJx00060 : String := "java/lang/ArrayIndexOutOfBoundsException"
def TJx00060 : u_T := fun k => match k with
  | 0 => ("java/lang/Throwable", "backtrace", "Ljava/lang/Object;", false)
  | 1 => ("java/lang/Throwable", "detailMessage", "Ljava/lang/String;", false)
  | 2 => ("java/lang/Throwable", "cause", "Ljava/lang/Throwable;", false)
  | 3 => ("java/lang/Throwable", "stackTrace", "[Ljava/lang/StackTraceElement;", false)
  | 4 => ("java/lang/Throwable", "depth", "I", false)
  | _ => ("java/lang/Throwable", "suppressedExceptions", "Ljava/util/List;", false)
def tyJx00060 : Nat → FieldType := fun k => match k with
  | 0 => .object "java/lang/Object"
  | 1 => .object "java/lang/String"
  | 2 => .object "java/lang/Throwable"
  | 3 => .array (.object "java/lang/StackTraceElement")
  | 4 => .int
  | _ => .object "java/util/List"
abbrev wsJx000600 : List Cond := u_ws RJx00060 TJx00060 6
theorem nmJx00060 : ∀ a, a < 6 → ∀ b, b < 6 → a ≠ b → (TJx00060 a).2.1 ≠ (TJx00060 b).2.1 := by decide +kernel
theorem tyJx00060_ok : ∀ k, k < 6 → parseFieldDescriptor (TJx00060 k).2.2.1 = some (tyJx00060 k) := by decide +kernel
abbrev cJx00060_init_a7421 : ByteArray := prog_10_method_2_code
def yJx00060_init_a7421 : MethodName := ⟨RJx00060, "<init>", "(Ljava/lang/String;)V"⟩
def RJx8e188 : String := "java/lang/Cloneable"
def TJx8e188 : u_T := fun k => match k with
  | _ => ("", "", "", false)
def tyJx8e188 : Nat → FieldType := fun k => match k with
  | _ => .int
abbrev wsJx8e1880 : List Cond := u_ws RJx8e188 TJx8e188 0
theorem nmJx8e188 : ∀ a, a < 0 → ∀ b, b < 0 → a ≠ b → (TJx8e188 a).2.1 ≠ (TJx8e188 b).2.1 := by decide +kernel
theorem tyJx8e188_ok : ∀ k, k < 0 → parseFieldDescriptor (TJx8e188 k).2.2.1 = some (tyJx8e188 k) := by decide +kernel
def RJ9 : String := "java/lang/Math"
def TJ9 : u_T := fun k => match k with
  | _ => ("", "", "", false)
def tyJ9 : Nat → FieldType := fun k => match k with
  | _ => .int
abbrev wsJ90 : List Cond := u_ws RJ9 TJ9 0
theorem nmJ9 : ∀ a, a < 0 → ∀ b, b < 0 → a ≠ b → (TJ9 a).2.1 ≠ (TJ9 b).2.1 := by decide +kernel
theorem tyJ9_ok : ∀ k, k < 0 → parseFieldDescriptor (TJ9 k).2.2.1 = some (tyJ9 k) := by decide +kernel
abbrev cJ9_min_7cf53 : ByteArray := prog_16_method_69_code
def yJ9_min_7cf53 : MethodName := ⟨RJ9, "min", "(II)I"⟩
def RJxde1cd : String := "java/lang/NegativeArraySizeException"
def TJxde1cd : u_T := fun k => match k with
  | 0 => ("java/lang/Throwable", "backtrace", "Ljava/lang/Object;", false)
  | 1 => ("java/lang/Throwable", "detailMessage", "Ljava/lang/String;", false)
  | 2 => ("java/lang/Throwable", "cause", "Ljava/lang/Throwable;", false)
  | 3 => ("java/lang/Throwable", "stackTrace", "[Ljava/lang/StackTraceElement;", false)
  | 4 => ("java/lang/Throwable", "depth", "I", false)
  | _ => ("java/lang/Throwable", "suppressedExceptions", "Ljava/util/List;", false)
def tyJxde1cd : Nat → FieldType := fun k => match k with
  | 0 => .object "java/lang/Object"
  | 1 => .object "java/lang/String"
  | 2 => .object "java/lang/Throwable"
  | 3 => .array (.object "java/lang/StackTraceElement")
  | 4 => .int
  | _ => .object "java/util/List"
abbrev wsJxde1cd0 : List Cond := u_ws RJxde1cd TJxde1cd 6
theorem nmJxde1cd : ∀ a, a < 6 → ∀ b, b < 6 → a ≠ b → (TJxde1cd a).2.1 ≠ (TJxde1cd b).2.1 := by decide +kernel
theorem tyJxde1cd_ok : ∀ k, k < 6 → parseFieldDescriptor (TJxde1cd k).2.2.1 = some (tyJxde1cd k) := by decide +kernel
abbrev cJxde1cd_init_a7421 : ByteArray := prog_17_method_2_code
def yJxde1cd_init_a7421 : MethodName := ⟨RJxde1cd, "<init>", "(Ljava/lang/String;)V"⟩
def RJx5d777 : String := "java/lang/NullPointerException"
def TJx5d777 : u_T := fun k => match k with
  | 0 => ("java/lang/Throwable", "backtrace", "Ljava/lang/Object;", false)
  | 1 => ("java/lang/Throwable", "detailMessage", "Ljava/lang/String;", false)
  | 2 => ("java/lang/Throwable", "cause", "Ljava/lang/Throwable;", false)
  | 3 => ("java/lang/Throwable", "stackTrace", "[Ljava/lang/StackTraceElement;", false)
  | 4 => ("java/lang/Throwable", "depth", "I", false)
  | 5 => ("java/lang/Throwable", "suppressedExceptions", "Ljava/util/List;", false)
  | 6 => ("java/lang/NullPointerException", "extendedMessageState", "I", false)
  | _ => ("java/lang/NullPointerException", "extendedMessage", "Ljava/lang/String;", false)
def tyJx5d777 : Nat → FieldType := fun k => match k with
  | 0 => .object "java/lang/Object"
  | 1 => .object "java/lang/String"
  | 2 => .object "java/lang/Throwable"
  | 3 => .array (.object "java/lang/StackTraceElement")
  | 4 => .int
  | 5 => .object "java/util/List"
  | 6 => .int
  | _ => .object "java/lang/String"
abbrev wsJx5d7770 : List Cond := u_ws RJx5d777 TJx5d777 8
theorem nmJx5d777 : ∀ a, a < 8 → ∀ b, b < 8 → a ≠ b → (TJx5d777 a).2.1 ≠ (TJx5d777 b).2.1 := by decide +kernel
theorem tyJx5d777_ok : ∀ k, k < 8 → parseFieldDescriptor (TJx5d777 k).2.2.1 = some (tyJx5d777 k) := by decide +kernel
abbrev cJx5d777_init_da8c8 : ByteArray := prog_18_method_1_code
def yJx5d777_init_da8c8 : MethodName := ⟨RJx5d777, "<init>", "()V"⟩
abbrev cJx5d777_fillInStackTrace_cddbd : ByteArray := prog_18_method_3_code
def yJx5d777_fillInStackTrace_cddbd : MethodName := ⟨RJx5d777, "fillInStackTrace", "()Ljava/lang/Throwable;"⟩
def RJ0 : String := "java/lang/String"
def TJ0 : u_T := fun k => match k with
  | 0 => ("java/lang/String", "value", "[B", true)
  | _ => ("java/lang/String", "coder", "B", true)
def tyJ0 : Nat → FieldType := fun k => match k with
  | 0 => .array .byte
  | _ => .byte
abbrev wsJ00 : List Cond := u_ws RJ0 TJ0 2
theorem nmJ0 : ∀ a, a < 2 → ∀ b, b < 2 → a ≠ b → (TJ0 a).2.1 ≠ (TJ0 b).2.1 := by decide +kernel
theorem tyJ0_ok : ∀ k, k < 2 → parseFieldDescriptor (TJ0 k).2.2.1 = some (tyJ0 k) := by decide +kernel
def RJ10 : String := "java/lang/System"
def TJ10 : u_T := fun k => match k with
  | _ => ("", "", "", false)
def tyJ10 : Nat → FieldType := fun k => match k with
  | _ => .int
abbrev wsJ100 : List Cond := u_ws RJ10 TJ10 0
theorem nmJ10 : ∀ a, a < 0 → ∀ b, b < 0 → a ≠ b → (TJ10 a).2.1 ≠ (TJ10 b).2.1 := by decide +kernel
theorem tyJ10_ok : ∀ k, k < 0 → parseFieldDescriptor (TJ10 k).2.2.1 = some (tyJ10 k) := by decide +kernel
def RJ7 : String := "java/util/Arrays"
def TJ7 : u_T := fun k => match k with
  | _ => ("", "", "", false)
def tyJ7 : Nat → FieldType := fun k => match k with
  | _ => .int
abbrev wsJ70 : List Cond := u_ws RJ7 TJ7 0
theorem nmJ7 : ∀ a, a < 0 → ∀ b, b < 0 → a ≠ b → (TJ7 a).2.1 ≠ (TJ7 b).2.1 := by decide +kernel
theorem tyJ7_ok : ∀ k, k < 0 → parseFieldDescriptor (TJ7 k).2.2.1 = some (tyJ7 k) := by decide +kernel
abbrev cJ7_copyOf_c38d5 : ByteArray := prog_24_method_124_code
def yJ7_copyOf_c38d5 : MethodName := ⟨RJ7, "copyOf", "([JI)[J"⟩
def RL : String := "TypedHallLaw"
abbrev cL_make : ByteArray := method_3_code
def yL_make : MethodName := ⟨RL, "make", "(LTypedHall;III[J)I"⟩
abbrev cL_grid : ByteArray := method_4_code
def yL_grid : MethodName := ⟨RL, "grid", "(LTypedHall;III[J)I"⟩
abbrev cL_record : ByteArray := method_5_code
def yL_record : MethodName := ⟨RL, "record", "(LTypedHall;I[J)I"⟩
abbrev cL_window : ByteArray := method_6_code
def yL_window : MethodName := ⟨RL, "window", "(LTypedHall;III[J)I"⟩
abbrev cL_copy : ByteArray := method_7_code
def yL_copy : MethodName := ⟨RL, "copy", "(LTypedHall;II[J)I"⟩
abbrev cL_lose : ByteArray := method_8_code
def yL_lose : MethodName := ⟨RL, "lose", "(LTypedHall;II[J)I"⟩
abbrev cL_resize : ByteArray := method_9_code
def yL_resize : MethodName := ⟨RL, "resize", "(LTypedHall;II[J)I"⟩
abbrev cL_size : ByteArray := method_10_code
def yL_size : MethodName := ⟨RL, "size", "(LTypedHall;I[J)I"⟩
abbrev cL_take : ByteArray := method_11_code
def yL_take : MethodName := ⟨RL, "take", "(LTypedHall;II[J)I"⟩
abbrev cL_put : ByteArray := method_12_code
def yL_put : MethodName := ⟨RL, "put", "(LTypedHall;IIJ[J)I"⟩
abbrev cL_cell : ByteArray := method_13_code
def yL_cell : MethodName := ⟨RL, "cell", "(LTypedHall;III[J)I"⟩
abbrev cL_setCell : ByteArray := method_14_code
def yL_setCell : MethodName := ⟨RL, "setCell", "(LTypedHall;IIIII)I"⟩
abbrev cL_refer : ByteArray := method_15_code
def yL_refer : MethodName := ⟨RL, "refer", "(LTypedHall;III)I"⟩
abbrev cL_fetch : ByteArray := method_16_code
def yL_fetch : MethodName := ⟨RL, "fetch", "(LTypedHall;III[J)I"⟩
abbrev cL_link : ByteArray := method_17_code
def yL_link : MethodName := ⟨RL, "link", "(LTypedHall;II)I"⟩
abbrev cL_follow : ByteArray := method_18_code
def yL_follow : MethodName := ⟨RL, "follow", "(LTypedHall;II[J)I"⟩
abbrev cL_exchange : ByteArray := method_19_code
def yL_exchange : MethodName := ⟨RL, "exchange", "(LTypedHall;IJ[J)I"⟩
abbrev cL_total : ByteArray := method_20_code
def yL_total : MethodName := ⟨RL, "total", "(LTypedHall;I[J)I"⟩
abbrev cL_combine : ByteArray := method_21_code
def yL_combine : MethodName := ⟨RL, "combine", "(LTypedHall;IIIII[J)I"⟩
abbrev cL_move : ByteArray := method_22_code
def yL_move : MethodName := ⟨RL, "move", "(LTypedHall;IIIII[J)I"⟩
abbrev cL_law : ByteArray := code
def yL_law : MethodName := ⟨RL, "law", "([I)Z"⟩
abbrev vwCl : List vw_C := [(RJ0, TJ0, 2), (RJx00060, TJx00060, 6), (RJxde1cd, TJxde1cd, 6), (RJx5d777, TJx5d777, 8), (RX0, TX0, 1), (RX2, TX2, 2), (RX3, TX3, 3), (RX4, TX4, 3), (RX5, TX5, 2), (RX6, TX6, 12)]
end
section
/-! ===== the abstract machine: what an instruction asks, over an abstract heap; no number of the machine's own stands in it ===== -/
abbrev ac_C : Type := (Nat → Int32) ⊕ ((Nat → Int64) ⊕ (Nat → Option Nat))
abbrev ac_E : Type := (Nat × List Value) ⊕ (Nat × Nat × ac_C)
abbrev ac_H : Type := Nat → Option ac_E
abbrev ac_V : Type := List (Option Value)
abbrev ac_O : Type := Option Value ⊕ Nat
abbrev ac_Q : Type := ac_O → ac_H → Prop
abbrev ac_K : Type := ac_V → List Value → ac_H → Nat → Nat → Prop
abbrev ac_P : Type := Nat → ac_K
abbrev ac_op : Type := ac_P → ac_Q → ac_K
abbrev ac_T : Type := List Value → ac_H → ac_Q → Prop
def ac_hs (h : ac_H) (a : Nat) (e : ac_E) : ac_H := fun q => if q = a then some e else h q
def ac_xn : Nat → String
  | 0 => "java/lang/IllegalArgumentException"
  | 1 => "java/lang/NullPointerException"
  | 2 => "java/lang/UnsupportedOperationException"
  | 3 => "java/lang/ArrayIndexOutOfBoundsException"
  | 4 => "java/lang/NegativeArraySizeException"
  | 5 => "java/lang/IllegalStateException"
  | _ => "java/lang/ArithmeticException"
def ac_lk : List (Nat × ac_op) → Nat → ac_op
  | [], _ => fun _ _ _ _ _ _ _ => False
  | x :: t, pc => cond (Nat.beq x.1 pc) x.2 (ac_lk t pc)
def ac_pad : Nat → (ac_V → Prop) → Prop
  | 0, K => K []
  | n + 1, K => ac_pad n (fun t => K (none :: t))
def ac_ent : List Value → Nat → (ac_V → Prop) → Prop
  | [], n, K => ac_pad n K
  | .int x :: t, n + 1, K => ac_ent t n (fun l => K (some (.int x) :: l))
  | .ref x :: t, n + 1, K => ac_ent t n (fun l => K (some (.ref x) :: l))
  | .null :: t, n + 1, K => ac_ent t n (fun l => K (some .null :: l))
  | .long x :: t, n + 2, K => ac_ent t n (fun l => K (some (.long x) :: none :: l))
  | _, _, _ => False
/-- what a method with this code asks so that all its ends are in Q -/
def ac_vc (code : List (Nat × ac_op)) (nL : Nat) : ac_T := fun args ah Q =>
  ∀ P : ac_P, (∀ (pc : Nat) (lv : ac_V) (st : List Value) (h : ac_H) (k n : Nat), ac_lk code pc P Q lv st h k n → P pc lv st h k n) → ac_ent args nL (fun lv => P 0 lv [] ah 0 0)
-- locals
def ac_ld : ac_V → Nat → (Value → Prop) → Prop
  | some v :: _, 0, K => K v
  | _ :: t, i + 1, K => ac_ld t i K
  | _, _, _ => False
def ac_c1 : Option Value → Prop → Prop
  | some (.long _), _ => False
  | some (.double _), _ => False
  | _, X => X
def ac_st1 : ac_V → Nat → Value → (ac_V → Prop) → Prop
  | _ :: t, 0, v, K => K (some v :: t)
  | a :: _ :: t, 1, v, K => ac_c1 a (K (a :: some v :: t))
  | a :: t, i + 2, v, K => ac_st1 t (i + 1) v (fun t' => K (a :: t'))
  | _, _, _, _ => False
def ac_t2 : ac_V → Value → (ac_V → Prop) → Prop
  | _ :: _ :: t, v, K => K (some v :: none :: t)
  | _, _, _ => False
def ac_st2 : ac_V → Nat → Value → (ac_V → Prop) → Prop
  | l, 0, v, K => ac_t2 l v K
  | a :: t, 1, v, K => ac_c1 a (ac_t2 t v (fun t' => K (a :: t')))
  | a :: t, i + 2, v, K => ac_st2 t (i + 1) v (fun t' => K (a :: t'))
  | _, _, _, _ => False
-- the stack
def ac_i1 : List Value → (Int32 → List Value → Prop) → Prop
  | .int x :: r, K => K x r
  | _, _ => False
def ac_l1 : List Value → (Int64 → List Value → Prop) → Prop
  | .long x :: r, K => K x r
  | _, _ => False
def ac_a1 : List Value → (Nat → List Value → Prop) → Prop
  | .ref x :: r, K => K x r
  | _, _ => False
def ac_n1 : List Value → (List Value → Prop) → (Nat → List Value → Prop) → Prop
  | .null :: r, N, _ => N r
  | .ref x :: r, _, K => K x r
  | _, _, _ => False
def ac_isI : Value → Prop → Prop
  | .int _, X => X
  | _, _ => False
def ac_isL : Value → Prop → Prop
  | .long _, X => X
  | _, _ => False
def ac_isA : Value → Prop → Prop
  | .ref _, X => X
  | .null, X => X
  | _, _ => False
-- straight instructions
def op_push (v : Value) (nx : Nat) : ac_op := fun P _ lv st h k n => P nx lv (v :: st) h k n
def op_iload (i nx : Nat) : ac_op := fun P _ lv st h k n => ac_ld lv i (fun v => ac_isI v (P nx lv (v :: st) h k n))
def op_lload (i nx : Nat) : ac_op := fun P _ lv st h k n => ac_ld lv i (fun v => ac_isL v (P nx lv (v :: st) h k n))
def op_aload (i nx : Nat) : ac_op := fun P _ lv st h k n => ac_ld lv i (fun v => ac_isA v (P nx lv (v :: st) h k n))
def op_istore (i nx : Nat) : ac_op := fun P _ lv st h k n => ac_i1 st (fun x r => ac_st1 lv i (.int x) (fun lv' => P nx lv' r h k n))
def op_lstore (i nx : Nat) : ac_op := fun P _ lv st h k n => ac_l1 st (fun x r => ac_st2 lv i (.long x) (fun lv' => P nx lv' r h k n))
def op_astore (i nx : Nat) : ac_op := fun P _ lv st h k n => ac_n1 st (fun r => ac_st1 lv i .null (fun lv' => P nx lv' r h k n)) (fun x r => ac_st1 lv i (.ref x) (fun lv' => P nx lv' r h k n))
def op_iinc (i : Nat) (d : Int32) (nx : Nat) : ac_op := fun P _ lv st h k n => ac_ld lv i (fun v => ac_i1 [v] (fun x _ => ac_st1 lv i (.int (x + d)) (fun lv' => P nx lv' st h k n)))
def op_ii (f : Int32 → Int32 → Int32) (nx : Nat) : ac_op := fun P _ lv st h k n => ac_i1 st (fun y r => ac_i1 r (fun x r => P nx lv (.int (f x y) :: r) h k n))
def op_ll (f : Int64 → Int64 → Int64) (nx : Nat) : ac_op := fun P _ lv st h k n => ac_l1 st (fun y r => ac_l1 r (fun x r => P nx lv (.long (f x y) :: r) h k n))
def op_idiv (nx : Nat) : ac_op := fun P _ lv st h k n => ac_i1 st (fun y r => ac_i1 r (fun x r => ¬ y = 0 ∧ P nx lv (.int (x / y) :: r) h k n))
def op_ldiv (nx : Nat) : ac_op := fun P _ lv st h k n => ac_l1 st (fun y r => ac_l1 r (fun x r => ¬ y = 0 ∧ P nx lv (.long (x / y) :: r) h k n))
def op_lrem (nx : Nat) : ac_op := fun P _ lv st h k n => ac_l1 st (fun y r => ac_l1 r (fun x r => ¬ y = 0 ∧ P nx lv (.long (x - x / y * y) :: r) h k n))
def op_lshl (nx : Nat) : ac_op := fun P _ lv st h k n => ac_i1 st (fun y r => ac_l1 r (fun x r => P nx lv (.long (x <<< (y.toInt64 &&& 63)) :: r) h k n))
def op_lcmp (nx : Nat) : ac_op := fun P _ lv st h k n => ac_l1 st (fun y r => ac_l1 r (fun x r => P nx lv (.int (lg_cmp x y) :: r) h k n))
def op_i (f : Int32 → Value) (nx : Nat) : ac_op := fun P _ lv st h k n => ac_i1 st (fun x r => P nx lv (f x :: r) h k n)
def op_l (f : Int64 → Value) (nx : Nat) : ac_op := fun P _ lv st h k n => ac_l1 st (fun x r => P nx lv (f x :: r) h k n)
def op_f2l (nx : Nat) : ac_op := fun P _ lv st h k n => match st with
  | .float x :: r => P nx lv (.long (FP.f2l x) :: r) h k n
  | _ => False
def op_d2l (nx : Nat) : ac_op := fun P _ lv st h k n => match st with
  | .double x :: r => P nx lv (.long (FP.d2l x) :: r) h k n
  | _ => False
def op_dup (nx : Nat) : ac_op := fun P _ lv st h k n => ac_a1 st (fun x r => P nx lv (.ref x :: .ref x :: r) h k n)
def op_pop2 (nx : Nat) : ac_op := fun P _ lv st h k n => ac_l1 st (fun _ r => P nx lv r h k n)
-- branches
def op_if (f : Int32 → Prop) (tg nx : Nat) : ac_op := fun P _ lv st h k n => ac_i1 st (fun x r => (f x → P tg lv r h k n) ∧ (¬ f x → P nx lv r h k n))
def op_icmp (f : Int32 → Int32 → Prop) (tg nx : Nat) : ac_op := fun P _ lv st h k n => ac_i1 st (fun y r => ac_i1 r (fun x r => (f x y → P tg lv r h k n) ∧ (¬ f x y → P nx lv r h k n)))
def op_goto (tg : Nat) : ac_op := fun P _ lv st h k n => P tg lv st h k n
def op_ifnull (tg nx : Nat) : ac_op := fun P _ lv st h k n => ac_n1 st (fun r => P tg lv r h k n) (fun _ r => P nx lv r h k n)
def op_ifnonnull (tg nx : Nat) : ac_op := fun P _ lv st h k n => ac_n1 st (fun r => P nx lv r h k n) (fun _ r => P tg lv r h k n)
def op_acmpne (tg nx : Nat) : ac_op := fun P _ lv st h k n => ac_n1 st (fun r => ac_n1 r (fun r => P nx lv r h k n) (fun _ r => P tg lv r h k n)) (fun y r => ac_n1 r (fun r => P tg lv r h k n) (fun x r => (¬ x = y → P tg lv r h k n) ∧ (x = y → P nx lv r h k n)))
def ac_sw (P : Nat → Prop) (x : Int32) : Nat → List Nat → Prop
  | _, [] => True
  | j, t :: ts => (x = nI j → P t) ∧ ac_sw P x (j + 1) ts
def op_switch (df : Nat) (ts : List Nat) : ac_op := fun P _ lv st h k n => ac_i1 st (fun x r => ac_sw (fun t => P t lv r h k n) x 0 ts ∧ ((x.toInt < 0 ∨ (ts.length : Int) ≤ x.toInt) → P df lv r h k n))
end
section
/-! ===== the abstract machine's rows hold on the machine ===== -/
def ac_em (A : Nat → ClassId) : ac_E → va_E
  | .inl o => .inr o
  | .inr (t, n, .inl f) => .inl (A t, n, .inl f)
  | .inr (t, n, .inr (.inl f)) => .inl (A t, n, .inr (.inl f))
  | .inr (t, n, .inr (.inr f)) => .inl (A t, n, .inr (.inr (.inr (.inr f))))
def ac_B (base : Nat) : Nat → Prop := fun q => base ≤ q
def ac_Rep (base : Nat) (D : va_G) (A : Nat → ClassId) (ah : ac_H) (H : Heap) : Prop := base ≤ H.size ∧ ∀ (a : Nat) (e : ac_E), ah a = some e → base ≤ a ∧ va_at D vwCl (a, ac_em A e) H
def ac_L (ls : Array Slot) (nL : Nat) (lv : ac_V) : Prop := ls.size = nL ∧ lv_wf ls ∧ lv.length = nL ∧ ∀ (j : Nat) (w : Value), lv[j]? = some (some w) → ls[j]? = some (.val w)
abbrev ac_tys (A : Nat → ClassId) : List (ClassId × FieldType) := [(A 0, .int), (A 1, .boolean), (A 2, .long), (A 3, .object "TypedHall$Item"), (A 4, .array .int)]
def ac_ngw (w : Cond) : Bool := match w with
  | .fieldLinkNest .. => true
  | .methodLinkNest .. => true
  | .declares _ => true
  | .castable .. => true
  | _ => false
def ac_gw : List Cond := lw_tbl.filter goodWord
def ac_ng : List Cond := lw_tbl.filter ac_ngw
def ac_nc : List (String × String) := (["java/lang/IllegalArgumentException", "java/lang/NullPointerException", "java/lang/UnsupportedOperationException", "java/lang/ArrayIndexOutOfBoundsException", "java/lang/NegativeArraySizeException", "java/lang/IllegalStateException", "java/lang/ArithmeticException"].flatMap fun a => (["java/lang/IllegalArgumentException", "java/lang/NullPointerException", "java/lang/UnsupportedOperationException", "java/lang/ArrayIndexOutOfBoundsException", "java/lang/NegativeArraySizeException", "java/lang/IllegalStateException", "java/lang/ArithmeticException"].filter (fun b => !(a == b))).map fun b => (a, b)) ++ ([RX0, RX2, RX3, RX4].flatMap fun a => ([RX0, RX2, RX3].filter (fun b => !(a == b))).map fun b => (a, b))
def ac_AOA (t : FieldType) (U : State) : Prop := (Cond.arrayOver (.array t)).before #[] U = true
theorem ac_AOA.moved {t : FieldType} {u U : State} (hvm : u.vm.Alike U.vm) (h : ac_AOA t u) : ac_AOA t U := by
  obtain ⟨comp, c, k, h1, h2, h3, h4, h5⟩ := arrayOverA_spec h
  obtain ⟨k', hk', he⟩ := hvm.2.2 _ _ h3
  have hi : (U.vm.classes.findIdx? fun (x : Class) => match x.kind with | .array component _ => component == comp | _ => false) = some c := by
    have hbq : U.vm.bare = u.vm.bare := by first | exact hvm.bare_eq | exact hvm.bare_eq.symm
    exact (va_idx_bare U.vm comp).symm.trans ((congrArg (fun v : Vm => v.classes.findIdx? fun (x : Class) => match x.kind with | .array component _ => component == comp | _ => false) hbq).trans ((va_idx_bare u.vm comp).trans h2))
  have hkind : k'.kind = .array comp (.array t) := by rw [he]; exact h4
  have f1 : U.vm.findClass (FieldType.array t).toString = some comp := by rw [hvm.findClass]; exact h1
  have f2 : U.vm.findClass ("[" ++ (FieldType.array t).toString) = some c := by rw [hvm.findClass]; exact h5
  unfold ac_AOA Cond.before Cond.holds
  simp only [Cond.value]
  rw [f1, Option.bind_some]
  refine (congrArg (fun o : Option Nat => (o.bind (fun c => (U.vm.classes[c]?).map fun (k : Class) => match k.kind with | .array _ ty => decide (ty = FieldType.array t) && decide (U.vm.findClass ("[" ++ (FieldType.array t).toString) = some c) | _ => false) == some true)) hi).trans ?_
  simp [hk', hkind, f2]
/-- what stays of the tables and of the old cells through the whole run -/
def ac_KN (base : Nat) (D : va_G) (A : Nat → ClassId) (U : State) (H : Heap) : Prop :=
  va_K D vwCl (ac_tys A) U ∧ vx_Zq Bundle.tN "UNASSIGNED_STACK" Bundle.steD (ac_B base) U H ∧ vx_Zq Bundle.tN "SUPPRESSED_SENTINEL" Bundle.listD (ac_B base) U H ∧
  (∃ zn : Nat, va_Z "TypedHall" "NO_ELEMENTS" "[I" (.ref zn) (ac_B base) U H ∧ va_X zn 0 (fun _ => 0) U H ∧ zn < base) ∧ (∀ q ∈ ac_nc, va_Nc q.1 q.2 U) ∧ (∀ w ∈ ac_ng, va_Nw w U) ∧ va_AO "TypedHall$Item" U ∧ ac_AOA .int U
abbrev ac_D : Type := String × String × ByteArray × Nat × Option FieldType × List (Nat × Nat × Nat × Nat) × Room
def ac_G (l : Launch) (p : Program) (s : State) (m : MethodId) (args : Array Value) (meth : Method) (c : Code) (M : ac_D) (base : Nat) (D : va_G) (A : Nat → ClassId) (scr : Nat → Nat → (Nat → Int32) → Prop) : Prop :=
  l.stackTraces = false ∧ p.tables.exec = Jvm.exec ∧ c.code = M.2.2.1 ∧ c.maxLocals = M.2.2.2.1 ∧ meth.sig.returnType = M.2.2.2.2.1 ∧ s.vm.findClass M.1 = some m.cls ∧ (∀ w ∈ ac_gw, w.before args s = true) ∧ meth.locks = false ∧ c.exceptionTable.toList = tableOf M.2.2.2.2.2.1 ∧ ac_KN base D A s s.heap ∧ base ≤ s.heap.size ∧ meth.name = M.2.1 ∧ ∀ (b L : Nat) (xs : Nat → Int32), scr b L xs → b < base ∧ va_X b L xs s s.heap
def ac_Qc (base : Nat) (D : va_G) (A : Nat → ClassId) (Q : ac_Q) : Array Value → State → Outcome → State → Prop := fun _ st o t => ∃ (v : Option Value) (ah : ac_H), o = .returned v ∧ Q (.inl v) ah ∧ ac_Rep base D A ah t.heap ∧ va_F (ac_B base) st t
def ac_XC (base : Nat) (D : va_G) (A : Nat → ClassId) (Q : ac_Q) : String → State → State → Prop := fun E st t => ∃ (x : Nat) (ah : ac_H), ac_xn x = E ∧ Q (.inr x) ah ∧ ac_Rep base D A ah t.heap ∧ va_F (ac_B base) st t
def ac_W (p : Program) (l : Launch) (e : Env) (s : State) (m : MethodId) (args : Array Value) (below : List Frame) (meth : Method) (c : Code) (nL : Nat) (R : Room) (base : Nat) (D : va_G) (A : Nat → ClassId) (Q : ac_Q) : ac_P := fun pc lv st ah k n =>
  ∀ (H : Heap) (locs : List Loc) (ls : Array Slot), ac_Rep base D A ah H → va_S (ac_B base) s.heap H locs → ac_L ls nL lv → W p l e R s m args below meth c H locs k n (vx_MQ below (ac_Qc base D A Q) (ac_XC base D A Q) args s R.cells R.slots (ac_B base)) (F0 m pc ls st)
def ac_So (M : ac_D) (scr : Nat → Nat → (Nat → Int32) → Prop) (pc : Nat) (op : ac_op) : Prop := ∀ (p : Program) (l : Launch) (e : Env) (s : State) (m : MethodId) (args : Array Value) (below : List Frame) (meth : Method) (c : Code) (base : Nat) (D : va_G) (A : Nat → ClassId) (Q : ac_Q),
  ac_G l p s m args meth c M base D A scr → ∀ (lv : ac_V) (st : List Value) (ah : ac_H) (k n : Nat), op (ac_W p l e s m args below meth c M.2.2.2.1 M.2.2.2.2.2.2 base D A Q) Q lv st ah k n → ac_W p l e s m args below meth c M.2.2.2.1 M.2.2.2.2.2.2 base D A Q pc lv st ah k n
theorem ac_i1v {st : List Value} {K : Int32 → List Value → Prop} (h : ac_i1 st K) : ∃ x r, st = .int x :: r ∧ K x r := by
  match st, h with
  | .int x :: r, h => exact ⟨x, r, rfl, h⟩
theorem ac_l1v {st : List Value} {K : Int64 → List Value → Prop} (h : ac_l1 st K) : ∃ x r, st = .long x :: r ∧ K x r := by
  match st, h with
  | .long x :: r, h => exact ⟨x, r, rfl, h⟩
theorem ac_a1v {st : List Value} {K : Nat → List Value → Prop} (h : ac_a1 st K) : ∃ x r, st = .ref x :: r ∧ K x r := by
  match st, h with
  | .ref x :: r, h => exact ⟨x, r, rfl, h⟩
theorem ac_n1v {st : List Value} {N : List Value → Prop} {K : Nat → List Value → Prop} (h : ac_n1 st N K) : (∃ r, st = .null :: r ∧ N r) ∨ ∃ x r, st = .ref x :: r ∧ K x r := by
  match st, h with
  | .null :: r, h => exact Or.inl ⟨r, rfl, h⟩
  | .ref x :: r, h => exact Or.inr ⟨x, r, rfl, h⟩
theorem ac_ldv : ∀ {lv : ac_V} {i : Nat} {K : Value → Prop}, ac_ld lv i K → ∃ v, lv[i]? = some (some v) ∧ K v
  | some v :: t, 0, K, h => ⟨v, rfl, h⟩
  | none :: t, 0, K, h => False.elim h
  | [], 0, K, h => False.elim h
  | [], i + 1, K, h => False.elim h
  | none :: t, i + 1, K, h => by
    obtain ⟨v, h1, h2⟩ := ac_ldv (lv := t) h
    exact ⟨v, by simpa using h1, h2⟩
  | some w :: t, i + 1, K, h => by
    obtain ⟨v, h1, h2⟩ := ac_ldv (lv := t) h
    exact ⟨v, by simpa using h1, h2⟩
theorem ac_isIv {v : Value} {X : Prop} (h : ac_isI v X) : (∃ x, v = .int x) ∧ X := by
  match v, h with
  | .int x, h => exact ⟨⟨x, rfl⟩, h⟩
theorem ac_isLv {v : Value} {X : Prop} (h : ac_isL v X) : (∃ x, v = .long x) ∧ X := by
  match v, h with
  | .long x, h => exact ⟨⟨x, rfl⟩, h⟩
theorem ac_isAv {v : Value} {X : Prop} (h : ac_isA v X) : (v = .null ∨ ∃ x, v = .ref x) ∧ X := by
  match v, h with
  | .ref x, h => exact ⟨Or.inr ⟨x, rfl⟩, h⟩
  | .null, h => exact ⟨Or.inl rfl, h⟩
theorem ac_c1v {a : Option Value} {X : Prop} (h : ac_c1 a X) : (∀ w, a = some w → ¬ w.category = 2) ∧ X := by
  match a, h with
  | none, h => exact ⟨fun w hw => (by cases hw), h⟩
  | some (.retAddr x), h => exact ⟨fun w hw => (by cases hw; simp [Value.category]), h⟩
  | some (.int x), h => exact ⟨fun w hw => by cases hw; simp [Value.category], h⟩
  | some (.float x), h => exact ⟨fun w hw => by cases hw; simp [Value.category], h⟩
  | some (.ref x), h => exact ⟨fun w hw => by cases hw; simp [Value.category], h⟩
  | some .null, h => exact ⟨fun w hw => by cases hw; simp [Value.category], h⟩
/-- what a store of one word leaves -/
def ac_s1 (lv lv' : ac_V) (i : Nat) (v : Value) : Prop := lv'.length = lv.length ∧ i < lv.length ∧ ∀ (j : Nat) (w : Value), lv'[j]? = some (some w) → (j = i ∧ w = v) ∨ (j ≠ i ∧ lv[j]? = some (some w) ∧ (j + 1 = i → ¬ w.category = 2))
theorem ac_st1v : ∀ {lv : ac_V} {i : Nat} {v : Value} {K : ac_V → Prop}, ac_st1 lv i v K → ∃ lv', ac_s1 lv lv' i v ∧ K lv'
  | a :: t, 0, v, K, h => by
    refine ⟨some v :: t, ⟨rfl, by simp, fun j w hj => ?_⟩, h⟩
    match j, hj with
    | 0, hj => exact Or.inl ⟨rfl, by simpa using hj.symm⟩
    | j + 1, hj => exact Or.inr ⟨by omega, by simpa using hj, by omega⟩
  | [], 0, v, K, h => False.elim h
  | [], 1, v, K, h => False.elim h
  | [a], 1, v, K, h => False.elim h
  | a :: b :: t, 1, v, K, h => by
    obtain ⟨h1, h2⟩ := ac_c1v h
    refine ⟨a :: some v :: t, ⟨rfl, by simp, fun j w hj => ?_⟩, h2⟩
    match j, hj with
    | 0, hj => exact Or.inr ⟨by omega, by simpa using hj, fun _ => h1 w (by simpa using hj)⟩
    | 1, hj => exact Or.inl ⟨rfl, by simpa using hj.symm⟩
    | j + 2, hj => exact Or.inr ⟨by omega, by simpa using hj, by omega⟩
  | [], i + 2, v, K, h => False.elim h
  | a :: t, i + 2, v, K, h => by
    obtain ⟨t', ⟨h1, h2, h3⟩, h4⟩ := ac_st1v (lv := t) (i := i + 1) h
    refine ⟨a :: t', ⟨by simp [h1], by simp; omega, fun j w hj => ?_⟩, h4⟩
    match j, hj with
    | 0, hj => exact Or.inr ⟨by omega, by simpa using hj, by omega⟩
    | j + 1, hj =>
      rcases h3 j w (by simpa using hj) with ⟨e1, e2⟩ | ⟨e1, e2, e3⟩
      · exact Or.inl ⟨by omega, e2⟩
      · exact Or.inr ⟨by omega, by simpa using e2, fun q => e3 (by omega)⟩
def ac_s2 (lv lv' : ac_V) (i : Nat) (v : Value) : Prop := lv'.length = lv.length ∧ i + 1 < lv.length ∧ ∀ (j : Nat) (w : Value), lv'[j]? = some (some w) → (j = i ∧ w = v) ∨ (j ≠ i ∧ j ≠ i + 1 ∧ lv[j]? = some (some w) ∧ (j + 1 = i → ¬ w.category = 2))
theorem ac_t2v {l : ac_V} {v : Value} {K : ac_V → Prop} (h : ac_t2 l v K) : ∃ a b t, l = a :: b :: t ∧ K (some v :: none :: t) := by
  match l, h with
  | a :: b :: t, h => exact ⟨a, b, t, rfl, h⟩
theorem ac_st2v : ∀ {lv : ac_V} {i : Nat} {v : Value} {K : ac_V → Prop}, ac_st2 lv i v K → ∃ lv', ac_s2 lv lv' i v ∧ K lv'
  | l, 0, v, K, h => by
    have h : ac_t2 l v K := by
      cases l <;> exact h
    obtain ⟨a, b, t, rfl, h⟩ := ac_t2v h
    refine ⟨some v :: none :: t, ⟨rfl, by simp, fun j w hj => ?_⟩, h⟩
    match j, hj with
    | 0, hj => exact Or.inl ⟨rfl, by simpa using hj.symm⟩
    | 1, hj => simp at hj
    | j + 2, hj => exact Or.inr ⟨by omega, by omega, by simpa using hj, by omega⟩
  | [], 1, v, K, h => False.elim h
  | a :: t, 1, v, K, h => by
    obtain ⟨h1, h2⟩ := ac_c1v (a := a) (X := ac_t2 t v (fun t' => K (a :: t'))) h
    obtain ⟨b, d, t, rfl, h2⟩ := ac_t2v h2
    refine ⟨a :: some v :: none :: t, ⟨rfl, by simp, fun j w hj => ?_⟩, h2⟩
    match j, hj with
    | 0, hj => exact Or.inr ⟨by omega, by omega, by simpa using hj, fun _ => h1 w (by simpa using hj)⟩
    | 1, hj => exact Or.inl ⟨rfl, by simpa using hj.symm⟩
    | 2, hj => simp at hj
    | j + 3, hj => exact Or.inr ⟨by omega, by omega, by simpa using hj, by omega⟩
  | [], i + 2, v, K, h => False.elim h
  | a :: t, i + 2, v, K, h => by
    obtain ⟨t', ⟨h1, h2, h3⟩, h4⟩ := ac_st2v (lv := t) (i := i + 1) h
    refine ⟨a :: t', ⟨by simp [h1], by simp; omega, fun j w hj => ?_⟩, h4⟩
    match j, hj with
    | 0, hj => exact Or.inr ⟨by omega, by omega, by simpa using hj, by omega⟩
    | j + 1, hj =>
      rcases h3 j w (by simpa using hj) with ⟨e1, e2⟩ | ⟨e1, e2, e3, e4⟩
      · exact Or.inl ⟨by omega, e2⟩
      · exact Or.inr ⟨by omega, by omega, by simpa using e3, fun q => e4 (by omega)⟩
/-- the known places as the kit's list -/
def ac_pr : Nat → ac_V → List (Nat × Value)
  | _, [] => []
  | i, none :: t => ac_pr (i + 1) t
  | i, some v :: t => (i, v) :: ac_pr (i + 1) t
theorem ac_pr_in : ∀ {lv : ac_V} {i j : Nat} {w : Value}, (j, w) ∈ ac_pr i lv → ∃ k, j = i + k ∧ lv[k]? = some (some w)
  | [], i, j, w, h => by simp [ac_pr] at h
  | none :: t, i, j, w, h => by
    obtain ⟨k, e1, e2⟩ := ac_pr_in (lv := t) (i := i + 1) h
    exact ⟨k + 1, by omega, by simpa using e2⟩
  | some v :: t, i, j, w, h => by
    simp only [ac_pr, List.mem_cons, Prod.mk.injEq] at h
    rcases h with ⟨rfl, rfl⟩ | h
    · exact ⟨0, rfl, rfl⟩
    · obtain ⟨k, e1, e2⟩ := ac_pr_in (lv := t) (i := i + 1) h
      exact ⟨k + 1, by omega, by simpa using e2⟩
theorem ac_pr_of : ∀ {lv : ac_V} {i k : Nat} {w : Value}, lv[k]? = some (some w) → (i + k, w) ∈ ac_pr i lv
  | [], i, k, w, h => by simp at h
  | none :: t, i, 0, w, h => by simp at h
  | none :: t, i, k + 1, w, h => by
    have := ac_pr_of (lv := t) (i := i + 1) (k := k) (w := w) (by simpa using h)
    rw [show i + 1 + k = i + (k + 1) by omega] at this
    exact this
  | some v :: t, i, 0, w, h => by
    have e : v = w := by simpa using h
    subst e
    simp [ac_pr]
  | some v :: t, i, k + 1, w, h => by
    have := ac_pr_of (lv := t) (i := i + 1) (k := k) (w := w) (by simpa using h)
    rw [show i + 1 + k = i + (k + 1) by omega] at this
    exact List.mem_cons_of_mem _ this
theorem ac_L.has {ls : Array Slot} {nL : Nat} {lv : ac_V} (h : ac_L ls nL lv) : lv_has ls nL (ac_pr 0 lv) := by
  obtain ⟨h1, h2, h3, h4⟩ := h
  refine ⟨h1, h2, fun q hq => ?_⟩
  obtain ⟨k, e1, e2⟩ := ac_pr_in (i := 0) (j := q.1) (w := q.2) hq
  rw [e1, Nat.zero_add]
  exact h4 k _ e2
theorem ac_L.st1 {ls ls' : Array Slot} {nL i : Nat} {v : Value} {lv lv' : ac_V} (h : ac_L ls nL lv) (hs : ac_s1 lv lv' i v) (hh : lv_has ls' nL ((i, v) :: (ac_pr 0 lv).filter (fun q => !(q.1 == i) && !(q.1 + 1 == i && q.2.category == 2)))) : ac_L ls' nL lv' := by
  obtain ⟨s1, s2, s3⟩ := hs
  refine ⟨hh.1, hh.2.1, s1.trans h.2.2.1, fun j w hj => ?_⟩
  rcases s3 j w hj with ⟨e1, e2⟩ | ⟨e1, e2, e3⟩
  · subst e1; subst e2
    exact hh.2.2 (j, w) List.mem_cons_self
  · refine hh.2.2 (j, w) (List.mem_cons_of_mem _ (List.mem_filter.mpr ⟨?_, ?_⟩))
    · have := ac_pr_of (i := 0) e2
      rw [Nat.zero_add] at this
      exact this
    · by_cases q : j + 1 = i
      · simp [e1, e3 q]
      · simp [e1, q]
theorem ac_L.st2 {ls ls' : Array Slot} {nL i : Nat} {v : Value} {lv lv' : ac_V} (h : ac_L ls nL lv) (hs : ac_s2 lv lv' i v) (hh : lv_has ls' nL ((i, v) :: (ac_pr 0 lv).filter (fun q => !(q.1 == i) && (!(q.1 == i + 1) && !(q.1 + 1 == i && q.2.category == 2))))) : ac_L ls' nL lv' := by
  obtain ⟨s1, s2, s3⟩ := hs
  refine ⟨hh.1, hh.2.1, s1.trans h.2.2.1, fun j w hj => ?_⟩
  rcases s3 j w hj with ⟨e1, e2⟩ | ⟨e1, e1', e2, e3⟩
  · subst e1; subst e2
    exact hh.2.2 (j, w) List.mem_cons_self
  · refine hh.2.2 (j, w) (List.mem_cons_of_mem _ (List.mem_filter.mpr ⟨?_, ?_⟩))
    · have := ac_pr_of (i := 0) e2
      rw [Nat.zero_add] at this
      exact this
    · by_cases q : j + 1 = i
      · simp [e1, e1', e3 q]
      · simp [e1, e1', q]
end
section
theorem dX0_init_0 : decode cX0_init 0 = .ok (.aload_n 0, 1) := by decide +kernel
theorem dX0_init_1 : decode cX0_init 1 = .ok (.invokespecial 3, 3) := by decide +kernel
theorem dX0_init_4 : decode cX0_init 4 = .ok (.aload_n 0, 1) := by decide +kernel
theorem dX0_init_5 : decode cX0_init 5 = .ok (.iload_n 1, 1) := by decide +kernel
theorem dX0_init_6 : decode cX0_init 6 = .ok (.iload_n 2, 1) := by decide +kernel
theorem dX0_init_7 : decode cX0_init 7 = .ok (.multianewarray 9 2, 4) := by decide +kernel
theorem dX0_init_11 : decode cX0_init 11 = .ok (.putfield 11, 3) := by decide +kernel
theorem dX0_init_14 : decode cX0_init 14 = .ok (.return_, 1) := by decide +kernel
theorem dX0_sort_0 : decode cX0_sort 0 = .ok (.bipush 9, 2) := by decide +kernel
theorem dX0_sort_2 : decode cX0_sort 2 = .ok (.ireturn, 1) := by decide +kernel
theorem dX1_init_0 : decode cX1_init 0 = .ok (.aload_n 0, 1) := by decide +kernel
theorem dX1_init_1 : decode cX1_init 1 = .ok (.invokespecial 1, 3) := by decide +kernel
theorem dX1_init_4 : decode cX1_init 4 = .ok (.return_, 1) := by decide +kernel
theorem dX1_ground_0 : decode cX1_ground 0 = .ok (.aconst_null, 1) := by decide +kernel
theorem dX1_ground_1 : decode cX1_ground 1 = .ok (.areturn, 1) := by decide +kernel
theorem dX1_shift_0 : decode cX1_shift 0 = .ok (.iconst 0, 1) := by decide +kernel
theorem dX1_shift_1 : decode cX1_shift 1 = .ok (.ireturn, 1) := by decide +kernel
theorem dX1_windows_0 : decode cX1_windows 0 = .ok (.iconst 0, 1) := by decide +kernel
theorem dX1_windows_1 : decode cX1_windows 1 = .ok (.ireturn, 1) := by decide +kernel
theorem dX2_init_0 : decode cX2_init 0 = .ok (.aload_n 0, 1) := by decide +kernel
theorem dX2_init_1 : decode cX2_init 1 = .ok (.invokespecial 3, 3) := by decide +kernel
theorem dX2_init_4 : decode cX2_init 4 = .ok (.aload_n 0, 1) := by decide +kernel
theorem dX2_init_5 : decode cX2_init 5 = .ok (.lconst 0, 1) := by decide +kernel
theorem dX2_init_6 : decode cX2_init 6 = .ok (.putfield 9, 3) := by decide +kernel
theorem dX2_init_9 : decode cX2_init 9 = .ok (.aload_n 0, 1) := by decide +kernel
theorem dX2_init_10 : decode cX2_init 10 = .ok (.aconst_null, 1) := by decide +kernel
theorem dX2_init_11 : decode cX2_init 11 = .ok (.putfield 15, 3) := by decide +kernel
theorem dX2_init_14 : decode cX2_init 14 = .ok (.return_, 1) := by decide +kernel
theorem dX2_sort_0 : decode cX2_sort 0 = .ok (.bipush 10, 2) := by decide +kernel
theorem dX2_sort_2 : decode cX2_sort 2 = .ok (.ireturn, 1) := by decide +kernel
theorem dX3_init_0 : decode cX3_init 0 = .ok (.aload_n 0, 1) := by decide +kernel
theorem dX3_init_1 : decode cX3_init 1 = .ok (.invokespecial 3, 3) := by decide +kernel
theorem dX3_init_4 : decode cX3_init 4 = .ok (.aload_n 0, 1) := by decide +kernel
theorem dX3_init_5 : decode cX3_init 5 = .ok (.iload_n 1, 1) := by decide +kernel
theorem dX3_init_6 : decode cX3_init 6 = .ok (.putfield 9, 3) := by decide +kernel
theorem dX3_init_9 : decode cX3_init 9 = .ok (.iload_n 1, 1) := by decide +kernel
theorem dX3_init_10 : decode cX3_init 10 = .ok (.bipush 8, 2) := by decide +kernel
theorem dX3_init_12 : decode cX3_init 12 = .ok (.if_icmp .ne 14, 3) := by decide +kernel
theorem dX3_init_15 : decode cX3_init 15 = .ok (.aload_n 0, 1) := by decide +kernel
theorem dX3_init_16 : decode cX3_init 16 = .ok (.iload_n 2, 1) := by decide +kernel
theorem dX3_init_17 : decode cX3_init 17 = .ok (.anewarray 4, 3) := by decide +kernel
theorem dX3_init_20 : decode cX3_init 20 = .ok (.putfield 15, 3) := by decide +kernel
theorem dX3_init_23 : decode cX3_init 23 = .ok (.goto 10, 3) := by decide +kernel
theorem dX3_init_26 : decode cX3_init 26 = .ok (.aload_n 0, 1) := by decide +kernel
theorem dX3_init_27 : decode cX3_init 27 = .ok (.iload_n 2, 1) := by decide +kernel
theorem dX3_init_28 : decode cX3_init 28 = .ok (.newarray .long, 2) := by decide +kernel
theorem dX3_init_30 : decode cX3_init 30 = .ok (.putfield 19, 3) := by decide +kernel
theorem dX3_init_33 : decode cX3_init 33 = .ok (.return_, 1) := by decide +kernel
theorem dX3_sort_0 : decode cX3_sort 0 = .ok (.aload_n 0, 1) := by decide +kernel
theorem dX3_sort_1 : decode cX3_sort 1 = .ok (.getfield 9, 3) := by decide +kernel
theorem dX3_sort_4 : decode cX3_sort 4 = .ok (.ireturn, 1) := by decide +kernel
theorem dX3_ground_0 : decode cX3_ground 0 = .ok (.aload_n 0, 1) := by decide +kernel
theorem dX3_ground_1 : decode cX3_ground 1 = .ok (.areturn, 1) := by decide +kernel
theorem dX3_isLost_0 : decode cX3_isLost 0 = .ok (.aload_n 0, 1) := by decide +kernel
theorem dX3_isLost_1 : decode cX3_isLost 1 = .ok (.getfield 19, 3) := by decide +kernel
theorem dX3_isLost_4 : decode cX3_isLost 4 = .ok (.ifnonnull 14, 3) := by decide +kernel
theorem dX3_isLost_7 : decode cX3_isLost 7 = .ok (.aload_n 0, 1) := by decide +kernel
theorem dX3_isLost_8 : decode cX3_isLost 8 = .ok (.getfield 15, 3) := by decide +kernel
theorem dX3_isLost_11 : decode cX3_isLost 11 = .ok (.ifnonnull 7, 3) := by decide +kernel
theorem dX3_isLost_14 : decode cX3_isLost 14 = .ok (.iconst 1, 1) := by decide +kernel
theorem dX3_isLost_15 : decode cX3_isLost 15 = .ok (.goto 4, 3) := by decide +kernel
theorem dX3_isLost_18 : decode cX3_isLost 18 = .ok (.iconst 0, 1) := by decide +kernel
theorem dX3_isLost_19 : decode cX3_isLost 19 = .ok (.ireturn, 1) := by decide +kernel
theorem dX3_length_0 : decode cX3_length 0 = .ok (.aload_n 0, 1) := by decide +kernel
theorem dX3_length_1 : decode cX3_length 1 = .ok (.getfield 19, 3) := by decide +kernel
theorem dX3_length_4 : decode cX3_length 4 = .ok (.ifnull 9, 3) := by decide +kernel
theorem dX3_length_7 : decode cX3_length 7 = .ok (.aload_n 0, 1) := by decide +kernel
theorem dX3_length_8 : decode cX3_length 8 = .ok (.getfield 19, 3) := by decide +kernel
theorem dX3_length_11 : decode cX3_length 11 = .ok (.arraylength, 1) := by decide +kernel
theorem dX3_length_12 : decode cX3_length 12 = .ok (.ireturn, 1) := by decide +kernel
theorem dX3_length_13 : decode cX3_length 13 = .ok (.aload_n 0, 1) := by decide +kernel
theorem dX3_length_14 : decode cX3_length 14 = .ok (.getfield 15, 3) := by decide +kernel
theorem dX3_length_17 : decode cX3_length 17 = .ok (.ifnull 11, 3) := by decide +kernel
theorem dX3_length_20 : decode cX3_length 20 = .ok (.aload_n 0, 1) := by decide +kernel
theorem dX3_length_21 : decode cX3_length 21 = .ok (.getfield 15, 3) := by decide +kernel
theorem dX3_length_24 : decode cX3_length 24 = .ok (.arraylength, 1) := by decide +kernel
theorem dX3_length_25 : decode cX3_length 25 = .ok (.goto 4, 3) := by decide +kernel
theorem dX3_length_28 : decode cX3_length 28 = .ok (.iconst 0, 1) := by decide +kernel
theorem dX3_length_29 : decode cX3_length 29 = .ok (.ireturn, 1) := by decide +kernel
theorem dX3_dropStorage_0 : decode cX3_dropStorage 0 = .ok (.aload_n 0, 1) := by decide +kernel
theorem dX3_dropStorage_1 : decode cX3_dropStorage 1 = .ok (.aconst_null, 1) := by decide +kernel
theorem dX3_dropStorage_2 : decode cX3_dropStorage 2 = .ok (.putfield 19, 3) := by decide +kernel
theorem dX3_dropStorage_5 : decode cX3_dropStorage 5 = .ok (.aload_n 0, 1) := by decide +kernel
theorem dX3_dropStorage_6 : decode cX3_dropStorage 6 = .ok (.aconst_null, 1) := by decide +kernel
theorem dX3_dropStorage_7 : decode cX3_dropStorage 7 = .ok (.putfield 15, 3) := by decide +kernel
theorem dX3_dropStorage_10 : decode cX3_dropStorage 10 = .ok (.return_, 1) := by decide +kernel
theorem dX3_changeLength_0 : decode cX3_changeLength 0 = .ok (.aload_n 0, 1) := by decide +kernel
theorem dX3_changeLength_1 : decode cX3_changeLength 1 = .ok (.invokevirtual 23, 3) := by decide +kernel
theorem dX3_changeLength_4 : decode cX3_changeLength 4 = .ok (.iload_n 1, 1) := by decide +kernel
theorem dX3_changeLength_5 : decode cX3_changeLength 5 = .ok (.invokestatic 27, 3) := by decide +kernel
theorem dX3_changeLength_8 : decode cX3_changeLength 8 = .ok (.istore_n 2, 1) := by decide +kernel
theorem dX3_changeLength_9 : decode cX3_changeLength 9 = .ok (.aload_n 0, 1) := by decide +kernel
theorem dX3_changeLength_10 : decode cX3_changeLength 10 = .ok (.getfield 19, 3) := by decide +kernel
theorem dX3_changeLength_13 : decode cX3_changeLength 13 = .ok (.ifnull 18, 3) := by decide +kernel
theorem dX3_changeLength_16 : decode cX3_changeLength 16 = .ok (.aload_n 0, 1) := by decide +kernel
theorem dX3_changeLength_17 : decode cX3_changeLength 17 = .ok (.aload_n 0, 1) := by decide +kernel
theorem dX3_changeLength_18 : decode cX3_changeLength 18 = .ok (.getfield 19, 3) := by decide +kernel
theorem dX3_changeLength_21 : decode cX3_changeLength 21 = .ok (.iload_n 1, 1) := by decide +kernel
theorem dX3_changeLength_22 : decode cX3_changeLength 22 = .ok (.invokestatic 33, 3) := by decide +kernel
theorem dX3_changeLength_25 : decode cX3_changeLength 25 = .ok (.putfield 19, 3) := by decide +kernel
theorem dX3_changeLength_28 : decode cX3_changeLength 28 = .ok (.goto 20, 3) := by decide +kernel
theorem dX3_changeLength_31 : decode cX3_changeLength 31 = .ok (.aload_n 0, 1) := by decide +kernel
theorem dX3_changeLength_32 : decode cX3_changeLength 32 = .ok (.getfield 15, 3) := by decide +kernel
theorem dX3_changeLength_35 : decode cX3_changeLength 35 = .ok (.ifnull 13, 3) := by decide +kernel
theorem dX3_changeLength_38 : decode cX3_changeLength 38 = .ok (.aload_n 0, 1) := by decide +kernel
theorem dX3_changeLength_39 : decode cX3_changeLength 39 = .ok (.aload_n 0, 1) := by decide +kernel
theorem dX3_changeLength_40 : decode cX3_changeLength 40 = .ok (.iload_n 2, 1) := by decide +kernel
theorem dX3_changeLength_41 : decode cX3_changeLength 41 = .ok (.iload_n 1, 1) := by decide +kernel
theorem dX3_changeLength_42 : decode cX3_changeLength 42 = .ok (.invokevirtual 39, 3) := by decide +kernel
theorem dX3_changeLength_45 : decode cX3_changeLength 45 = .ok (.putfield 15, 3) := by decide +kernel
theorem dX3_changeLength_48 : decode cX3_changeLength 48 = .ok (.iload_n 2, 1) := by decide +kernel
theorem dX3_changeLength_49 : decode cX3_changeLength 49 = .ok (.ireturn, 1) := by decide +kernel
theorem dX3_firstItems_0 : decode cX3_firstItems 0 = .ok (.iload_n 2, 1) := by decide +kernel
theorem dX3_firstItems_1 : decode cX3_firstItems 1 = .ok (.anewarray 4, 3) := by decide +kernel
theorem dX3_firstItems_4 : decode cX3_firstItems 4 = .ok (.astore_n 3, 1) := by decide +kernel
theorem dX3_firstItems_5 : decode cX3_firstItems 5 = .ok (.iconst 0, 1) := by decide +kernel
theorem dX3_firstItems_6 : decode cX3_firstItems 6 = .ok (.istore 4, 2) := by decide +kernel
theorem dX3_firstItems_8 : decode cX3_firstItems 8 = .ok (.iload 4, 2) := by decide +kernel
theorem dX3_firstItems_10 : decode cX3_firstItems 10 = .ok (.iload_n 1, 1) := by decide +kernel
theorem dX3_firstItems_11 : decode cX3_firstItems 11 = .ok (.if_icmp .ge 20, 3) := by decide +kernel
theorem dX3_firstItems_14 : decode cX3_firstItems 14 = .ok (.aload_n 3, 1) := by decide +kernel
theorem dX3_firstItems_15 : decode cX3_firstItems 15 = .ok (.iload 4, 2) := by decide +kernel
theorem dX3_firstItems_17 : decode cX3_firstItems 17 = .ok (.aload_n 0, 1) := by decide +kernel
theorem dX3_firstItems_18 : decode cX3_firstItems 18 = .ok (.getfield 15, 3) := by decide +kernel
theorem dX3_firstItems_21 : decode cX3_firstItems 21 = .ok (.iload 4, 2) := by decide +kernel
theorem dX3_firstItems_23 : decode cX3_firstItems 23 = .ok (.aaload, 1) := by decide +kernel
theorem dX3_firstItems_24 : decode cX3_firstItems 24 = .ok (.aastore, 1) := by decide +kernel
theorem dX3_firstItems_25 : decode cX3_firstItems 25 = .ok (.iinc 4 1, 3) := by decide +kernel
theorem dX3_firstItems_28 : decode cX3_firstItems 28 = .ok (.goto (-20), 3) := by decide +kernel
theorem dX3_firstItems_31 : decode cX3_firstItems 31 = .ok (.aload_n 3, 1) := by decide +kernel
theorem dX3_firstItems_32 : decode cX3_firstItems 32 = .ok (.areturn, 1) := by decide +kernel
theorem dX4_init_0 : decode cX4_init 0 = .ok (.aload_n 0, 1) := by decide +kernel
theorem dX4_init_1 : decode cX4_init 1 = .ok (.invokespecial 1, 3) := by decide +kernel
theorem dX4_init_4 : decode cX4_init 4 = .ok (.aload_n 0, 1) := by decide +kernel
theorem dX4_init_5 : decode cX4_init 5 = .ok (.aload_n 1, 1) := by decide +kernel
theorem dX4_init_6 : decode cX4_init 6 = .ok (.putfield 7, 3) := by decide +kernel
theorem dX4_init_9 : decode cX4_init 9 = .ok (.aload_n 0, 1) := by decide +kernel
theorem dX4_init_10 : decode cX4_init 10 = .ok (.iload_n 2, 1) := by decide +kernel
theorem dX4_init_11 : decode cX4_init 11 = .ok (.putfield 13, 3) := by decide +kernel
theorem dX4_init_14 : decode cX4_init 14 = .ok (.aload_n 0, 1) := by decide +kernel
theorem dX4_init_15 : decode cX4_init 15 = .ok (.iload_n 3, 1) := by decide +kernel
theorem dX4_init_16 : decode cX4_init 16 = .ok (.putfield 17, 3) := by decide +kernel
theorem dX4_init_19 : decode cX4_init 19 = .ok (.return_, 1) := by decide +kernel
theorem dX4_sort_0 : decode cX4_sort 0 = .ok (.aload_n 0, 1) := by decide +kernel
theorem dX4_sort_1 : decode cX4_sort 1 = .ok (.getfield 7, 3) := by decide +kernel
theorem dX4_sort_4 : decode cX4_sort 4 = .ok (.getfield 20, 3) := by decide +kernel
theorem dX4_sort_7 : decode cX4_sort 7 = .ok (.ireturn, 1) := by decide +kernel
theorem dX4_ground_0 : decode cX4_ground 0 = .ok (.aload_n 0, 1) := by decide +kernel
theorem dX4_ground_1 : decode cX4_ground 1 = .ok (.getfield 7, 3) := by decide +kernel
theorem dX4_ground_4 : decode cX4_ground 4 = .ok (.areturn, 1) := by decide +kernel
theorem dX4_shift_0 : decode cX4_shift 0 = .ok (.aload_n 0, 1) := by decide +kernel
theorem dX4_shift_1 : decode cX4_shift 1 = .ok (.getfield 13, 3) := by decide +kernel
theorem dX4_shift_4 : decode cX4_shift 4 = .ok (.ireturn, 1) := by decide +kernel
theorem dX4_windows_0 : decode cX4_windows 0 = .ok (.aload_n 0, 1) := by decide +kernel
theorem dX4_windows_1 : decode cX4_windows 1 = .ok (.getfield 17, 3) := by decide +kernel
theorem dX4_windows_4 : decode cX4_windows 4 = .ok (.ireturn, 1) := by decide +kernel
theorem dX5_init_0 : decode cX5_init 0 = .ok (.aload_n 0, 1) := by decide +kernel
theorem dX5_init_1 : decode cX5_init 1 = .ok (.invokespecial 1, 3) := by decide +kernel
theorem dX5_init_4 : decode cX5_init 4 = .ok (.aload_n 0, 1) := by decide +kernel
theorem dX5_init_5 : decode cX5_init 5 = .ok (.bipush 8, 2) := by decide +kernel
theorem dX5_init_7 : decode cX5_init 7 = .ok (.anewarray 9, 3) := by decide +kernel
theorem dX5_init_10 : decode cX5_init 10 = .ok (.putfield 11, 3) := by decide +kernel
theorem dX5_init_13 : decode cX5_init 13 = .ok (.aload_n 0, 1) := by decide +kernel
theorem dX5_init_14 : decode cX5_init 14 = .ok (.iconst 0, 1) := by decide +kernel
theorem dX5_init_15 : decode cX5_init 15 = .ok (.putfield 15, 3) := by decide +kernel
theorem dX5_init_18 : decode cX5_init 18 = .ok (.return_, 1) := by decide +kernel
theorem dX5_make_0 : decode cX5_make 0 = .ok (.iload_n 1, 1) := by decide +kernel
theorem dX5_make_1 : decode cX5_make 1 = .ok (.invokestatic 19, 3) := by decide +kernel
theorem dX5_make_4 : decode cX5_make 4 = .ok (.iload_n 2, 1) := by decide +kernel
theorem dX5_make_5 : decode cX5_make 5 = .ok (.ifCond .lt 13, 3) := by decide +kernel
theorem dX5_make_8 : decode cX5_make 8 = .ok (.iload_n 2, 1) := by decide +kernel
theorem dX5_make_9 : decode cX5_make 9 = .ok (.bipush 8, 2) := by decide +kernel
theorem dX5_make_11 : decode cX5_make 11 = .ok (.if_icmp .gt 7, 3) := by decide +kernel
theorem dX5_make_14 : decode cX5_make 14 = .ok (.iconst 1, 1) := by decide +kernel
theorem dX5_make_15 : decode cX5_make 15 = .ok (.goto 4, 3) := by decide +kernel
theorem dX5_make_18 : decode cX5_make 18 = .ok (.iconst 0, 1) := by decide +kernel
theorem dX5_make_19 : decode cX5_make 19 = .ok (.invokestatic 23, 3) := by decide +kernel
theorem dX5_make_22 : decode cX5_make 22 = .ok (.iload_n 3, 1) := by decide +kernel
theorem dX5_make_23 : decode cX5_make 23 = .ok (.bipush 24, 2) := by decide +kernel
theorem dX5_make_25 : decode cX5_make 25 = .ok (.if_icmp .gt 7, 3) := by decide +kernel
theorem dX5_make_28 : decode cX5_make 28 = .ok (.iconst 1, 1) := by decide +kernel
theorem dX5_make_29 : decode cX5_make 29 = .ok (.goto 4, 3) := by decide +kernel
theorem dX5_make_32 : decode cX5_make 32 = .ok (.iconst 0, 1) := by decide +kernel
theorem dX5_make_33 : decode cX5_make 33 = .ok (.invokestatic 23, 3) := by decide +kernel
theorem dX5_make_36 : decode cX5_make 36 = .ok (.iload_n 3, 1) := by decide +kernel
theorem dX5_make_37 : decode cX5_make 37 = .ok (.invokestatic 27, 3) := by decide +kernel
theorem dX5_make_40 : decode cX5_make 40 = .ok (.aload_n 0, 1) := by decide +kernel
theorem dX5_make_41 : decode cX5_make 41 = .ok (.iload_n 1, 1) := by decide +kernel
theorem dX5_make_42 : decode cX5_make 42 = .ok (.new 30, 3) := by decide +kernel
theorem dX5_make_45 : decode cX5_make 45 = .ok (.dup, 1) := by decide +kernel
theorem dX5_make_46 : decode cX5_make 46 = .ok (.iload_n 2, 1) := by decide +kernel
theorem dX5_make_47 : decode cX5_make 47 = .ok (.iload_n 3, 1) := by decide +kernel
theorem dX5_make_48 : decode cX5_make 48 = .ok (.invokespecial 32, 3) := by decide +kernel
theorem dX5_make_51 : decode cX5_make 51 = .ok (.invokevirtual 35, 3) := by decide +kernel
theorem dX5_make_54 : decode cX5_make 54 = .ok (.ireturn, 1) := by decide +kernel
theorem dX5_grid_0 : decode cX5_grid 0 = .ok (.iload_n 1, 1) := by decide +kernel
theorem dX5_grid_1 : decode cX5_grid 1 = .ok (.invokestatic 19, 3) := by decide +kernel
theorem dX5_grid_4 : decode cX5_grid 4 = .ok (.iload_n 2, 1) := by decide +kernel
theorem dX5_grid_5 : decode cX5_grid 5 = .ok (.bipush 6, 2) := by decide +kernel
theorem dX5_grid_7 : decode cX5_grid 7 = .ok (.if_icmp .gt 7, 3) := by decide +kernel
theorem dX5_grid_10 : decode cX5_grid 10 = .ok (.iconst 1, 1) := by decide +kernel
theorem dX5_grid_11 : decode cX5_grid 11 = .ok (.goto 4, 3) := by decide +kernel
theorem dX5_grid_14 : decode cX5_grid 14 = .ok (.iconst 0, 1) := by decide +kernel
theorem dX5_grid_15 : decode cX5_grid 15 = .ok (.invokestatic 23, 3) := by decide +kernel
theorem dX5_grid_18 : decode cX5_grid 18 = .ok (.iload_n 3, 1) := by decide +kernel
theorem dX5_grid_19 : decode cX5_grid 19 = .ok (.iconst 4, 1) := by decide +kernel
theorem dX5_grid_20 : decode cX5_grid 20 = .ok (.if_icmp .gt 7, 3) := by decide +kernel
theorem dX5_grid_23 : decode cX5_grid 23 = .ok (.iconst 1, 1) := by decide +kernel
theorem dX5_grid_24 : decode cX5_grid 24 = .ok (.goto 4, 3) := by decide +kernel
theorem dX5_grid_27 : decode cX5_grid 27 = .ok (.iconst 0, 1) := by decide +kernel
theorem dX5_grid_28 : decode cX5_grid 28 = .ok (.invokestatic 23, 3) := by decide +kernel
theorem dX5_grid_31 : decode cX5_grid 31 = .ok (.iload_n 2, 1) := by decide +kernel
theorem dX5_grid_32 : decode cX5_grid 32 = .ok (.invokestatic 27, 3) := by decide +kernel
theorem dX5_grid_35 : decode cX5_grid 35 = .ok (.iload_n 3, 1) := by decide +kernel
theorem dX5_grid_36 : decode cX5_grid 36 = .ok (.invokestatic 27, 3) := by decide +kernel
theorem dX5_grid_39 : decode cX5_grid 39 = .ok (.aload_n 0, 1) := by decide +kernel
theorem dX5_grid_40 : decode cX5_grid 40 = .ok (.iload_n 1, 1) := by decide +kernel
theorem dX5_grid_41 : decode cX5_grid 41 = .ok (.new 39, 3) := by decide +kernel
theorem dX5_grid_44 : decode cX5_grid 44 = .ok (.dup, 1) := by decide +kernel
theorem dX5_grid_45 : decode cX5_grid 45 = .ok (.iload_n 2, 1) := by decide +kernel
theorem dX5_grid_46 : decode cX5_grid 46 = .ok (.iload_n 3, 1) := by decide +kernel
theorem dX5_grid_47 : decode cX5_grid 47 = .ok (.invokespecial 41, 3) := by decide +kernel
theorem dX5_grid_50 : decode cX5_grid 50 = .ok (.invokevirtual 35, 3) := by decide +kernel
theorem dX5_grid_53 : decode cX5_grid 53 = .ok (.ireturn, 1) := by decide +kernel
theorem dX5_record_0 : decode cX5_record 0 = .ok (.iload_n 1, 1) := by decide +kernel
theorem dX5_record_1 : decode cX5_record 1 = .ok (.invokestatic 19, 3) := by decide +kernel
theorem dX5_record_4 : decode cX5_record 4 = .ok (.aload_n 0, 1) := by decide +kernel
theorem dX5_record_5 : decode cX5_record 5 = .ok (.iload_n 1, 1) := by decide +kernel
theorem dX5_record_6 : decode cX5_record 6 = .ok (.new 42, 3) := by decide +kernel
theorem dX5_record_9 : decode cX5_record 9 = .ok (.dup, 1) := by decide +kernel
theorem dX5_record_10 : decode cX5_record 10 = .ok (.invokespecial 44, 3) := by decide +kernel
theorem dX5_record_13 : decode cX5_record 13 = .ok (.invokevirtual 35, 3) := by decide +kernel
theorem dX5_record_16 : decode cX5_record 16 = .ok (.ireturn, 1) := by decide +kernel
theorem dX5_window_0 : decode cX5_window 0 = .ok (.iload_n 1, 1) := by decide +kernel
theorem dX5_window_1 : decode cX5_window 1 = .ok (.invokestatic 19, 3) := by decide +kernel
theorem dX5_window_4 : decode cX5_window 4 = .ok (.iload_n 2, 1) := by decide +kernel
theorem dX5_window_5 : decode cX5_window 5 = .ok (.invokestatic 19, 3) := by decide +kernel
theorem dX5_window_8 : decode cX5_window 8 = .ok (.aload_n 0, 1) := by decide +kernel
theorem dX5_window_9 : decode cX5_window 9 = .ok (.iload_n 2, 1) := by decide +kernel
theorem dX5_window_10 : decode cX5_window 10 = .ok (.invokevirtual 45, 3) := by decide +kernel
theorem dX5_window_13 : decode cX5_window 13 = .ok (.astore 4, 2) := by decide +kernel
theorem dX5_window_15 : decode cX5_window 15 = .ok (.aload 4, 2) := by decide +kernel
theorem dX5_window_17 : decode cX5_window 17 = .ok (.invokevirtual 49, 3) := by decide +kernel
theorem dX5_window_20 : decode cX5_window 20 = .ok (.ifnull 7, 3) := by decide +kernel
theorem dX5_window_23 : decode cX5_window 23 = .ok (.iconst 1, 1) := by decide +kernel
theorem dX5_window_24 : decode cX5_window 24 = .ok (.goto 4, 3) := by decide +kernel
theorem dX5_window_27 : decode cX5_window 27 = .ok (.iconst 0, 1) := by decide +kernel
theorem dX5_window_28 : decode cX5_window 28 = .ok (.invokestatic 53, 3) := by decide +kernel
theorem dX5_window_31 : decode cX5_window 31 = .ok (.aload 4, 2) := by decide +kernel
theorem dX5_window_33 : decode cX5_window 33 = .ok (.invokevirtual 56, 3) := by decide +kernel
theorem dX5_window_36 : decode cX5_window 36 = .ok (.iconst 5, 1) := by decide +kernel
theorem dX5_window_37 : decode cX5_window 37 = .ok (.if_icmp .le 11, 3) := by decide +kernel
theorem dX5_window_40 : decode cX5_window 40 = .ok (.new 60, 3) := by decide +kernel
theorem dX5_window_43 : decode cX5_window 43 = .ok (.dup, 1) := by decide +kernel
theorem dX5_window_44 : decode cX5_window 44 = .ok (.invokespecial 62, 3) := by decide +kernel
theorem dX5_window_47 : decode cX5_window 47 = .ok (.athrow, 1) := by decide +kernel
theorem dX5_window_48 : decode cX5_window 48 = .ok (.aload 4, 2) := by decide +kernel
theorem dX5_window_50 : decode cX5_window 50 = .ok (.invokevirtual 63, 3) := by decide +kernel
theorem dX5_window_53 : decode cX5_window 53 = .ok (.iload_n 3, 1) := by decide +kernel
theorem dX5_window_54 : decode cX5_window 54 = .ok (.iadd, 1) := by decide +kernel
theorem dX5_window_55 : decode cX5_window 55 = .ok (.istore 5, 2) := by decide +kernel
theorem dX5_window_57 : decode cX5_window 57 = .ok (.aload_n 0, 1) := by decide +kernel
theorem dX5_window_58 : decode cX5_window 58 = .ok (.iload_n 1, 1) := by decide +kernel
theorem dX5_window_59 : decode cX5_window 59 = .ok (.new 66, 3) := by decide +kernel
theorem dX5_window_62 : decode cX5_window 62 = .ok (.dup, 1) := by decide +kernel
theorem dX5_window_63 : decode cX5_window 63 = .ok (.aload 4, 2) := by decide +kernel
theorem dX5_window_65 : decode cX5_window 65 = .ok (.invokevirtual 49, 3) := by decide +kernel
theorem dX5_window_68 : decode cX5_window 68 = .ok (.iload 5, 2) := by decide +kernel
theorem dX5_window_70 : decode cX5_window 70 = .ok (.aload 4, 2) := by decide +kernel
theorem dX5_window_72 : decode cX5_window 72 = .ok (.invokevirtual 56, 3) := by decide +kernel
theorem dX5_window_75 : decode cX5_window 75 = .ok (.iconst 1, 1) := by decide +kernel
theorem dX5_window_76 : decode cX5_window 76 = .ok (.iadd, 1) := by decide +kernel
theorem dX5_window_77 : decode cX5_window 77 = .ok (.invokespecial 68, 3) := by decide +kernel
theorem dX5_window_80 : decode cX5_window 80 = .ok (.invokevirtual 35, 3) := by decide +kernel
theorem dX5_window_83 : decode cX5_window 83 = .ok (.ireturn, 1) := by decide +kernel
theorem dX5_copy_0 : decode cX5_copy 0 = .ok (.iload_n 1, 1) := by decide +kernel
theorem dX5_copy_1 : decode cX5_copy 1 = .ok (.invokestatic 19, 3) := by decide +kernel
theorem dX5_copy_4 : decode cX5_copy 4 = .ok (.iload_n 2, 1) := by decide +kernel
theorem dX5_copy_5 : decode cX5_copy 5 = .ok (.iconst (-1), 1) := by decide +kernel
theorem dX5_copy_6 : decode cX5_copy 6 = .ok (.if_icmp .lt 13, 3) := by decide +kernel
theorem dX5_copy_9 : decode cX5_copy 9 = .ok (.iload_n 2, 1) := by decide +kernel
theorem dX5_copy_10 : decode cX5_copy 10 = .ok (.bipush 8, 2) := by decide +kernel
theorem dX5_copy_12 : decode cX5_copy 12 = .ok (.if_icmp .ge 7, 3) := by decide +kernel
theorem dX5_copy_15 : decode cX5_copy 15 = .ok (.iconst 1, 1) := by decide +kernel
theorem dX5_copy_16 : decode cX5_copy 16 = .ok (.goto 4, 3) := by decide +kernel
theorem dX5_copy_19 : decode cX5_copy 19 = .ok (.iconst 0, 1) := by decide +kernel
theorem dX5_copy_20 : decode cX5_copy 20 = .ok (.invokestatic 23, 3) := by decide +kernel
theorem dX5_copy_23 : decode cX5_copy 23 = .ok (.iload_n 2, 1) := by decide +kernel
theorem dX5_copy_24 : decode cX5_copy 24 = .ok (.iconst (-1), 1) := by decide +kernel
theorem dX5_copy_25 : decode cX5_copy 25 = .ok (.if_icmp .ne 7, 3) := by decide +kernel
theorem dX5_copy_28 : decode cX5_copy 28 = .ok (.aconst_null, 1) := by decide +kernel
theorem dX5_copy_29 : decode cX5_copy 29 = .ok (.goto 9, 3) := by decide +kernel
theorem dX5_copy_32 : decode cX5_copy 32 = .ok (.aload_n 0, 1) := by decide +kernel
theorem dX5_copy_33 : decode cX5_copy 33 = .ok (.getfield 11, 3) := by decide +kernel
theorem dX5_copy_36 : decode cX5_copy 36 = .ok (.iload_n 2, 1) := by decide +kernel
theorem dX5_copy_37 : decode cX5_copy 37 = .ok (.aaload, 1) := by decide +kernel
theorem dX5_copy_38 : decode cX5_copy 38 = .ok (.astore_n 3, 1) := by decide +kernel
theorem dX5_copy_39 : decode cX5_copy 39 = .ok (.aload_n 0, 1) := by decide +kernel
theorem dX5_copy_40 : decode cX5_copy 40 = .ok (.getfield 11, 3) := by decide +kernel
theorem dX5_copy_43 : decode cX5_copy 43 = .ok (.iload_n 1, 1) := by decide +kernel
theorem dX5_copy_44 : decode cX5_copy 44 = .ok (.aaload, 1) := by decide +kernel
theorem dX5_copy_45 : decode cX5_copy 45 = .ok (.aload_n 3, 1) := by decide +kernel
theorem dX5_copy_46 : decode cX5_copy 46 = .ok (.if_acmp .ne 7, 3) := by decide +kernel
theorem dX5_copy_49 : decode cX5_copy 49 = .ok (.iconst 1, 1) := by decide +kernel
theorem dX5_copy_50 : decode cX5_copy 50 = .ok (.goto 4, 3) := by decide +kernel
theorem dX5_copy_53 : decode cX5_copy 53 = .ok (.iconst 0, 1) := by decide +kernel
theorem dX5_copy_54 : decode cX5_copy 54 = .ok (.istore 4, 2) := by decide +kernel
theorem dX5_copy_56 : decode cX5_copy 56 = .ok (.aload_n 0, 1) := by decide +kernel
theorem dX5_copy_57 : decode cX5_copy 57 = .ok (.getfield 11, 3) := by decide +kernel
theorem dX5_copy_60 : decode cX5_copy 60 = .ok (.iload_n 1, 1) := by decide +kernel
theorem dX5_copy_61 : decode cX5_copy 61 = .ok (.aload_n 3, 1) := by decide +kernel
theorem dX5_copy_62 : decode cX5_copy 62 = .ok (.aastore, 1) := by decide +kernel
theorem dX5_copy_63 : decode cX5_copy 63 = .ok (.iload 4, 2) := by decide +kernel
theorem dX5_copy_65 : decode cX5_copy 65 = .ok (.ireturn, 1) := by decide +kernel
theorem dX5_lose_0 : decode cX5_lose 0 = .ok (.iload_n 1, 1) := by decide +kernel
theorem dX5_lose_1 : decode cX5_lose 1 = .ok (.invokestatic 19, 3) := by decide +kernel
theorem dX5_lose_4 : decode cX5_lose 4 = .ok (.aload_n 0, 1) := by decide +kernel
theorem dX5_lose_5 : decode cX5_lose 5 = .ok (.iload_n 1, 1) := by decide +kernel
theorem dX5_lose_6 : decode cX5_lose 6 = .ok (.invokevirtual 45, 3) := by decide +kernel
theorem dX5_lose_9 : decode cX5_lose 9 = .ok (.astore_n 3, 1) := by decide +kernel
theorem dX5_lose_10 : decode cX5_lose 10 = .ok (.aload_n 3, 1) := by decide +kernel
theorem dX5_lose_11 : decode cX5_lose 11 = .ok (.instanceof 39, 3) := by decide +kernel
theorem dX5_lose_14 : decode cX5_lose 14 = .ok (.ifCond .eq 16, 3) := by decide +kernel
theorem dX5_lose_17 : decode cX5_lose 17 = .ok (.aload_n 3, 1) := by decide +kernel
theorem dX5_lose_18 : decode cX5_lose 18 = .ok (.checkcast 39, 3) := by decide +kernel
theorem dX5_lose_21 : decode cX5_lose 21 = .ok (.astore 4, 2) := by decide +kernel
theorem dX5_lose_23 : decode cX5_lose 23 = .ok (.aload 4, 2) := by decide +kernel
theorem dX5_lose_25 : decode cX5_lose 25 = .ok (.iload_n 2, 1) := by decide +kernel
theorem dX5_lose_26 : decode cX5_lose 26 = .ok (.invokestatic 71, 3) := by decide +kernel
theorem dX5_lose_29 : decode cX5_lose 29 = .ok (.ireturn, 1) := by decide +kernel
theorem dX5_lose_30 : decode cX5_lose 30 = .ok (.aload_n 3, 1) := by decide +kernel
theorem dX5_lose_31 : decode cX5_lose 31 = .ok (.invokestatic 75, 3) := by decide +kernel
theorem dX5_lose_34 : decode cX5_lose 34 = .ok (.invokestatic 79, 3) := by decide +kernel
theorem dX5_lose_37 : decode cX5_lose 37 = .ok (.ireturn, 1) := by decide +kernel
theorem dX5_resize_0 : decode cX5_resize 0 = .ok (.iload_n 1, 1) := by decide +kernel
theorem dX5_resize_1 : decode cX5_resize 1 = .ok (.invokestatic 19, 3) := by decide +kernel
theorem dX5_resize_4 : decode cX5_resize 4 = .ok (.iload_n 2, 1) := by decide +kernel
theorem dX5_resize_5 : decode cX5_resize 5 = .ok (.bipush 24, 2) := by decide +kernel
theorem dX5_resize_7 : decode cX5_resize 7 = .ok (.if_icmp .gt 7, 3) := by decide +kernel
theorem dX5_resize_10 : decode cX5_resize 10 = .ok (.iconst 1, 1) := by decide +kernel
theorem dX5_resize_11 : decode cX5_resize 11 = .ok (.goto 4, 3) := by decide +kernel
theorem dX5_resize_14 : decode cX5_resize 14 = .ok (.iconst 0, 1) := by decide +kernel
theorem dX5_resize_15 : decode cX5_resize 15 = .ok (.invokestatic 23, 3) := by decide +kernel
theorem dX5_resize_18 : decode cX5_resize 18 = .ok (.aload_n 0, 1) := by decide +kernel
theorem dX5_resize_19 : decode cX5_resize 19 = .ok (.iload_n 1, 1) := by decide +kernel
theorem dX5_resize_20 : decode cX5_resize 20 = .ok (.invokevirtual 45, 3) := by decide +kernel
theorem dX5_resize_23 : decode cX5_resize 23 = .ok (.invokestatic 75, 3) := by decide +kernel
theorem dX5_resize_26 : decode cX5_resize 26 = .ok (.astore_n 3, 1) := by decide +kernel
theorem dX5_resize_27 : decode cX5_resize 27 = .ok (.iload_n 2, 1) := by decide +kernel
theorem dX5_resize_28 : decode cX5_resize 28 = .ok (.invokestatic 27, 3) := by decide +kernel
theorem dX5_resize_31 : decode cX5_resize 31 = .ok (.aload_n 3, 1) := by decide +kernel
theorem dX5_resize_32 : decode cX5_resize 32 = .ok (.invokevirtual 83, 3) := by decide +kernel
theorem dX5_resize_35 : decode cX5_resize 35 = .ok (.ifCond .ne 7, 3) := by decide +kernel
theorem dX5_resize_38 : decode cX5_resize 38 = .ok (.iconst 1, 1) := by decide +kernel
theorem dX5_resize_39 : decode cX5_resize 39 = .ok (.goto 4, 3) := by decide +kernel
theorem dX5_resize_42 : decode cX5_resize 42 = .ok (.iconst 0, 1) := by decide +kernel
theorem dX5_resize_43 : decode cX5_resize 43 = .ok (.invokestatic 87, 3) := by decide +kernel
theorem dX5_resize_46 : decode cX5_resize 46 = .ok (.aload_n 3, 1) := by decide +kernel
theorem dX5_resize_47 : decode cX5_resize 47 = .ok (.iload_n 2, 1) := by decide +kernel
theorem dX5_resize_48 : decode cX5_resize 48 = .ok (.invokevirtual 90, 3) := by decide +kernel
theorem dX5_resize_51 : decode cX5_resize 51 = .ok (.ireturn, 1) := by decide +kernel
theorem dX5_size_0 : decode cX5_size 0 = .ok (.iload_n 1, 1) := by decide +kernel
theorem dX5_size_1 : decode cX5_size 1 = .ok (.invokestatic 19, 3) := by decide +kernel
theorem dX5_size_4 : decode cX5_size 4 = .ok (.aload_n 0, 1) := by decide +kernel
theorem dX5_size_5 : decode cX5_size 5 = .ok (.iload_n 1, 1) := by decide +kernel
theorem dX5_size_6 : decode cX5_size 6 = .ok (.invokevirtual 45, 3) := by decide +kernel
theorem dX5_size_9 : decode cX5_size 9 = .ok (.astore_n 2, 1) := by decide +kernel
theorem dX5_size_10 : decode cX5_size 10 = .ok (.aload_n 2, 1) := by decide +kernel
theorem dX5_size_11 : decode cX5_size 11 = .ok (.instanceof 39, 3) := by decide +kernel
theorem dX5_size_14 : decode cX5_size 14 = .ok (.ifCond .eq 14, 3) := by decide +kernel
theorem dX5_size_17 : decode cX5_size 17 = .ok (.aload_n 2, 1) := by decide +kernel
theorem dX5_size_18 : decode cX5_size 18 = .ok (.checkcast 39, 3) := by decide +kernel
theorem dX5_size_21 : decode cX5_size 21 = .ok (.astore_n 3, 1) := by decide +kernel
theorem dX5_size_22 : decode cX5_size 22 = .ok (.aload_n 3, 1) := by decide +kernel
theorem dX5_size_23 : decode cX5_size 23 = .ok (.getfield 94, 3) := by decide +kernel
theorem dX5_size_26 : decode cX5_size 26 = .ok (.arraylength, 1) := by decide +kernel
theorem dX5_size_27 : decode cX5_size 27 = .ok (.ireturn, 1) := by decide +kernel
theorem dX5_size_28 : decode cX5_size 28 = .ok (.aload_n 2, 1) := by decide +kernel
theorem dX5_size_29 : decode cX5_size 29 = .ok (.invokevirtual 49, 3) := by decide +kernel
theorem dX5_size_32 : decode cX5_size 32 = .ok (.astore_n 3, 1) := by decide +kernel
theorem dX5_size_33 : decode cX5_size 33 = .ok (.aload_n 3, 1) := by decide +kernel
theorem dX5_size_34 : decode cX5_size 34 = .ok (.ifnull 7, 3) := by decide +kernel
theorem dX5_size_37 : decode cX5_size 37 = .ok (.iconst 1, 1) := by decide +kernel
theorem dX5_size_38 : decode cX5_size 38 = .ok (.goto 4, 3) := by decide +kernel
theorem dX5_size_41 : decode cX5_size 41 = .ok (.iconst 0, 1) := by decide +kernel
theorem dX5_size_42 : decode cX5_size 42 = .ok (.invokestatic 53, 3) := by decide +kernel
theorem dX5_size_45 : decode cX5_size 45 = .ok (.aload_n 3, 1) := by decide +kernel
theorem dX5_size_46 : decode cX5_size 46 = .ok (.invokevirtual 83, 3) := by decide +kernel
theorem dX5_size_49 : decode cX5_size 49 = .ok (.ifCond .ne 7, 3) := by decide +kernel
theorem dX5_size_52 : decode cX5_size 52 = .ok (.iconst 1, 1) := by decide +kernel
theorem dX5_size_53 : decode cX5_size 53 = .ok (.goto 4, 3) := by decide +kernel
theorem dX5_size_56 : decode cX5_size 56 = .ok (.iconst 0, 1) := by decide +kernel
theorem dX5_size_57 : decode cX5_size 57 = .ok (.invokestatic 87, 3) := by decide +kernel
theorem dX5_size_60 : decode cX5_size 60 = .ok (.aload_n 3, 1) := by decide +kernel
theorem dX5_size_61 : decode cX5_size 61 = .ok (.invokevirtual 98, 3) := by decide +kernel
theorem dX5_size_64 : decode cX5_size 64 = .ok (.aload_n 2, 1) := by decide +kernel
theorem dX5_size_65 : decode cX5_size 65 = .ok (.invokevirtual 63, 3) := by decide +kernel
theorem dX5_size_68 : decode cX5_size 68 = .ok (.isub, 1) := by decide +kernel
theorem dX5_size_69 : decode cX5_size 69 = .ok (.ireturn, 1) := by decide +kernel
theorem dX5_take_0 : decode cX5_take 0 = .ok (.iload_n 1, 1) := by decide +kernel
theorem dX5_take_1 : decode cX5_take 1 = .ok (.invokestatic 19, 3) := by decide +kernel
theorem dX5_take_4 : decode cX5_take 4 = .ok (.aload_n 0, 1) := by decide +kernel
theorem dX5_take_5 : decode cX5_take 5 = .ok (.iload_n 1, 1) := by decide +kernel
theorem dX5_take_6 : decode cX5_take 6 = .ok (.invokevirtual 45, 3) := by decide +kernel
theorem dX5_take_9 : decode cX5_take 9 = .ok (.astore_n 3, 1) := by decide +kernel
theorem dX5_take_10 : decode cX5_take 10 = .ok (.aload_n 3, 1) := by decide +kernel
theorem dX5_take_11 : decode cX5_take 11 = .ok (.invokevirtual 101, 3) := by decide +kernel
theorem dX5_take_14 : decode cX5_take 14 = .ok (.bipush 7, 2) := by decide +kernel
theorem dX5_take_16 : decode cX5_take 16 = .ok (.if_icmp .gt 7, 3) := by decide +kernel
theorem dX5_take_19 : decode cX5_take 19 = .ok (.iconst 1, 1) := by decide +kernel
theorem dX5_take_20 : decode cX5_take 20 = .ok (.goto 4, 3) := by decide +kernel
theorem dX5_take_23 : decode cX5_take 23 = .ok (.iconst 0, 1) := by decide +kernel
theorem dX5_take_24 : decode cX5_take 24 = .ok (.invokestatic 53, 3) := by decide +kernel
theorem dX5_take_27 : decode cX5_take 27 = .ok (.aload_n 3, 1) := by decide +kernel
theorem dX5_take_28 : decode cX5_take 28 = .ok (.iload_n 2, 1) := by decide +kernel
theorem dX5_take_29 : decode cX5_take 29 = .ok (.invokestatic 104, 3) := by decide +kernel
theorem dX5_take_32 : decode cX5_take 32 = .ok (.lreturn, 1) := by decide +kernel
theorem dX5_put_0 : decode cX5_put 0 = .ok (.iload_n 1, 1) := by decide +kernel
theorem dX5_put_1 : decode cX5_put 1 = .ok (.invokestatic 19, 3) := by decide +kernel
theorem dX5_put_4 : decode cX5_put 4 = .ok (.aload_n 0, 1) := by decide +kernel
theorem dX5_put_5 : decode cX5_put 5 = .ok (.iload_n 1, 1) := by decide +kernel
theorem dX5_put_6 : decode cX5_put 6 = .ok (.invokevirtual 45, 3) := by decide +kernel
theorem dX5_put_9 : decode cX5_put 9 = .ok (.astore 5, 2) := by decide +kernel
theorem dX5_put_11 : decode cX5_put 11 = .ok (.aload 5, 2) := by decide +kernel
theorem dX5_put_13 : decode cX5_put 13 = .ok (.invokevirtual 101, 3) := by decide +kernel
theorem dX5_put_16 : decode cX5_put 16 = .ok (.bipush 7, 2) := by decide +kernel
theorem dX5_put_18 : decode cX5_put 18 = .ok (.if_icmp .gt 7, 3) := by decide +kernel
theorem dX5_put_21 : decode cX5_put 21 = .ok (.iconst 1, 1) := by decide +kernel
theorem dX5_put_22 : decode cX5_put 22 = .ok (.goto 4, 3) := by decide +kernel
theorem dX5_put_25 : decode cX5_put 25 = .ok (.iconst 0, 1) := by decide +kernel
theorem dX5_put_26 : decode cX5_put 26 = .ok (.invokestatic 53, 3) := by decide +kernel
theorem dX5_put_29 : decode cX5_put 29 = .ok (.aload 5, 2) := by decide +kernel
theorem dX5_put_31 : decode cX5_put 31 = .ok (.iload_n 2, 1) := by decide +kernel
theorem dX5_put_32 : decode cX5_put 32 = .ok (.lload_n 3, 1) := by decide +kernel
theorem dX5_put_33 : decode cX5_put 33 = .ok (.invokestatic 108, 3) := by decide +kernel
theorem dX5_put_36 : decode cX5_put 36 = .ok (.lreturn, 1) := by decide +kernel
theorem dX5_cell_0 : decode cX5_cell 0 = .ok (.iload_n 1, 1) := by decide +kernel
theorem dX5_cell_1 : decode cX5_cell 1 = .ok (.invokestatic 19, 3) := by decide +kernel
theorem dX5_cell_4 : decode cX5_cell 4 = .ok (.aload_n 0, 1) := by decide +kernel
theorem dX5_cell_5 : decode cX5_cell 5 = .ok (.iload_n 1, 1) := by decide +kernel
theorem dX5_cell_6 : decode cX5_cell 6 = .ok (.invokevirtual 112, 3) := by decide +kernel
theorem dX5_cell_9 : decode cX5_cell 9 = .ok (.astore 4, 2) := by decide +kernel
theorem dX5_cell_11 : decode cX5_cell 11 = .ok (.iload_n 2, 1) := by decide +kernel
theorem dX5_cell_12 : decode cX5_cell 12 = .ok (.aload 4, 2) := by decide +kernel
theorem dX5_cell_14 : decode cX5_cell 14 = .ok (.getfield 94, 3) := by decide +kernel
theorem dX5_cell_17 : decode cX5_cell 17 = .ok (.arraylength, 1) := by decide +kernel
theorem dX5_cell_18 : decode cX5_cell 18 = .ok (.invokestatic 116, 3) := by decide +kernel
theorem dX5_cell_21 : decode cX5_cell 21 = .ok (.aload 4, 2) := by decide +kernel
theorem dX5_cell_23 : decode cX5_cell 23 = .ok (.getfield 94, 3) := by decide +kernel
theorem dX5_cell_26 : decode cX5_cell 26 = .ok (.iload_n 2, 1) := by decide +kernel
theorem dX5_cell_27 : decode cX5_cell 27 = .ok (.aaload, 1) := by decide +kernel
theorem dX5_cell_28 : decode cX5_cell 28 = .ok (.iload_n 3, 1) := by decide +kernel
theorem dX5_cell_29 : decode cX5_cell 29 = .ok (.invokestatic 119, 3) := by decide +kernel
theorem dX5_cell_32 : decode cX5_cell 32 = .ok (.aload 4, 2) := by decide +kernel
theorem dX5_cell_34 : decode cX5_cell 34 = .ok (.getfield 94, 3) := by decide +kernel
theorem dX5_cell_37 : decode cX5_cell 37 = .ok (.iload_n 2, 1) := by decide +kernel
theorem dX5_cell_38 : decode cX5_cell 38 = .ok (.aaload, 1) := by decide +kernel
theorem dX5_cell_39 : decode cX5_cell 39 = .ok (.iload_n 3, 1) := by decide +kernel
theorem dX5_cell_40 : decode cX5_cell 40 = .ok (.iaload, 1) := by decide +kernel
theorem dX5_cell_41 : decode cX5_cell 41 = .ok (.ireturn, 1) := by decide +kernel
theorem dX5_setCell_0 : decode cX5_setCell 0 = .ok (.iload_n 1, 1) := by decide +kernel
theorem dX5_setCell_1 : decode cX5_setCell 1 = .ok (.invokestatic 19, 3) := by decide +kernel
theorem dX5_setCell_4 : decode cX5_setCell 4 = .ok (.aload_n 0, 1) := by decide +kernel
theorem dX5_setCell_5 : decode cX5_setCell 5 = .ok (.iload_n 1, 1) := by decide +kernel
theorem dX5_setCell_6 : decode cX5_setCell 6 = .ok (.invokevirtual 112, 3) := by decide +kernel
theorem dX5_setCell_9 : decode cX5_setCell 9 = .ok (.astore 6, 2) := by decide +kernel
theorem dX5_setCell_11 : decode cX5_setCell 11 = .ok (.iload_n 2, 1) := by decide +kernel
theorem dX5_setCell_12 : decode cX5_setCell 12 = .ok (.aload 6, 2) := by decide +kernel
theorem dX5_setCell_14 : decode cX5_setCell 14 = .ok (.getfield 94, 3) := by decide +kernel
theorem dX5_setCell_17 : decode cX5_setCell 17 = .ok (.arraylength, 1) := by decide +kernel
theorem dX5_setCell_18 : decode cX5_setCell 18 = .ok (.invokestatic 116, 3) := by decide +kernel
theorem dX5_setCell_21 : decode cX5_setCell 21 = .ok (.iload 5, 2) := by decide +kernel
theorem dX5_setCell_23 : decode cX5_setCell 23 = .ok (.i2l, 1) := by decide +kernel
theorem dX5_setCell_24 : decode cX5_setCell 24 = .ok (.invokestatic 123, 3) := by decide +kernel
theorem dX5_setCell_27 : decode cX5_setCell 27 = .ok (.aload 6, 2) := by decide +kernel
theorem dX5_setCell_29 : decode cX5_setCell 29 = .ok (.getfield 94, 3) := by decide +kernel
theorem dX5_setCell_32 : decode cX5_setCell 32 = .ok (.iload_n 2, 1) := by decide +kernel
theorem dX5_setCell_33 : decode cX5_setCell 33 = .ok (.aaload, 1) := by decide +kernel
theorem dX5_setCell_34 : decode cX5_setCell 34 = .ok (.iload_n 3, 1) := by decide +kernel
theorem dX5_setCell_35 : decode cX5_setCell 35 = .ok (.invokestatic 119, 3) := by decide +kernel
theorem dX5_setCell_38 : decode cX5_setCell 38 = .ok (.aload 6, 2) := by decide +kernel
theorem dX5_setCell_40 : decode cX5_setCell 40 = .ok (.getfield 94, 3) := by decide +kernel
theorem dX5_setCell_43 : decode cX5_setCell 43 = .ok (.iload_n 2, 1) := by decide +kernel
theorem dX5_setCell_44 : decode cX5_setCell 44 = .ok (.aaload, 1) := by decide +kernel
theorem dX5_setCell_45 : decode cX5_setCell 45 = .ok (.iload_n 3, 1) := by decide +kernel
theorem dX5_setCell_46 : decode cX5_setCell 46 = .ok (.iload 4, 2) := by decide +kernel
theorem dX5_setCell_48 : decode cX5_setCell 48 = .ok (.iload 5, 2) := by decide +kernel
theorem dX5_setCell_50 : decode cX5_setCell 50 = .ok (.idiv, 1) := by decide +kernel
theorem dX5_setCell_51 : decode cX5_setCell 51 = .ok (.iastore, 1) := by decide +kernel
theorem dX5_setCell_52 : decode cX5_setCell 52 = .ok (.return_, 1) := by decide +kernel
theorem dX5_refer_0 : decode cX5_refer 0 = .ok (.iload_n 1, 1) := by decide +kernel
theorem dX5_refer_1 : decode cX5_refer 1 = .ok (.invokestatic 19, 3) := by decide +kernel
theorem dX5_refer_4 : decode cX5_refer 4 = .ok (.iload_n 3, 1) := by decide +kernel
theorem dX5_refer_5 : decode cX5_refer 5 = .ok (.invokestatic 19, 3) := by decide +kernel
theorem dX5_refer_8 : decode cX5_refer 8 = .ok (.aload_n 0, 1) := by decide +kernel
theorem dX5_refer_9 : decode cX5_refer 9 = .ok (.iload_n 1, 1) := by decide +kernel
theorem dX5_refer_10 : decode cX5_refer 10 = .ok (.invokevirtual 45, 3) := by decide +kernel
theorem dX5_refer_13 : decode cX5_refer 13 = .ok (.astore 4, 2) := by decide +kernel
theorem dX5_refer_15 : decode cX5_refer 15 = .ok (.aload 4, 2) := by decide +kernel
theorem dX5_refer_17 : decode cX5_refer 17 = .ok (.invokevirtual 101, 3) := by decide +kernel
end
section
theorem dX5_refer_20 : decode cX5_refer 20 = .ok (.bipush 8, 2) := by decide +kernel
theorem dX5_refer_22 : decode cX5_refer 22 = .ok (.if_icmp .ne 7, 3) := by decide +kernel
theorem dX5_refer_25 : decode cX5_refer 25 = .ok (.iconst 1, 1) := by decide +kernel
theorem dX5_refer_26 : decode cX5_refer 26 = .ok (.goto 4, 3) := by decide +kernel
theorem dX5_refer_29 : decode cX5_refer 29 = .ok (.iconst 0, 1) := by decide +kernel
theorem dX5_refer_30 : decode cX5_refer 30 = .ok (.invokestatic 53, 3) := by decide +kernel
theorem dX5_refer_33 : decode cX5_refer 33 = .ok (.aload 4, 2) := by decide +kernel
theorem dX5_refer_35 : decode cX5_refer 35 = .ok (.iload_n 2, 1) := by decide +kernel
theorem dX5_refer_36 : decode cX5_refer 36 = .ok (.invokestatic 127, 3) := by decide +kernel
theorem dX5_refer_39 : decode cX5_refer 39 = .ok (.istore 5, 2) := by decide +kernel
theorem dX5_refer_41 : decode cX5_refer 41 = .ok (.aload 4, 2) := by decide +kernel
theorem dX5_refer_43 : decode cX5_refer 43 = .ok (.invokevirtual 49, 3) := by decide +kernel
theorem dX5_refer_46 : decode cX5_refer 46 = .ok (.getfield 131, 3) := by decide +kernel
theorem dX5_refer_49 : decode cX5_refer 49 = .ok (.iload 5, 2) := by decide +kernel
theorem dX5_refer_51 : decode cX5_refer 51 = .ok (.aload_n 0, 1) := by decide +kernel
theorem dX5_refer_52 : decode cX5_refer 52 = .ok (.getfield 11, 3) := by decide +kernel
theorem dX5_refer_55 : decode cX5_refer 55 = .ok (.iload_n 3, 1) := by decide +kernel
theorem dX5_refer_56 : decode cX5_refer 56 = .ok (.aaload, 1) := by decide +kernel
theorem dX5_refer_57 : decode cX5_refer 57 = .ok (.aastore, 1) := by decide +kernel
theorem dX5_refer_58 : decode cX5_refer 58 = .ok (.return_, 1) := by decide +kernel
theorem dX5_fetch_0 : decode cX5_fetch 0 = .ok (.iload_n 1, 1) := by decide +kernel
theorem dX5_fetch_1 : decode cX5_fetch 1 = .ok (.invokestatic 19, 3) := by decide +kernel
theorem dX5_fetch_4 : decode cX5_fetch 4 = .ok (.iload_n 2, 1) := by decide +kernel
theorem dX5_fetch_5 : decode cX5_fetch 5 = .ok (.invokestatic 19, 3) := by decide +kernel
theorem dX5_fetch_8 : decode cX5_fetch 8 = .ok (.aload_n 0, 1) := by decide +kernel
theorem dX5_fetch_9 : decode cX5_fetch 9 = .ok (.iload_n 2, 1) := by decide +kernel
theorem dX5_fetch_10 : decode cX5_fetch 10 = .ok (.invokevirtual 45, 3) := by decide +kernel
theorem dX5_fetch_13 : decode cX5_fetch 13 = .ok (.astore 4, 2) := by decide +kernel
theorem dX5_fetch_15 : decode cX5_fetch 15 = .ok (.aload 4, 2) := by decide +kernel
theorem dX5_fetch_17 : decode cX5_fetch 17 = .ok (.invokevirtual 101, 3) := by decide +kernel
theorem dX5_fetch_20 : decode cX5_fetch 20 = .ok (.bipush 8, 2) := by decide +kernel
theorem dX5_fetch_22 : decode cX5_fetch 22 = .ok (.if_icmp .ne 7, 3) := by decide +kernel
theorem dX5_fetch_25 : decode cX5_fetch 25 = .ok (.iconst 1, 1) := by decide +kernel
theorem dX5_fetch_26 : decode cX5_fetch 26 = .ok (.goto 4, 3) := by decide +kernel
theorem dX5_fetch_29 : decode cX5_fetch 29 = .ok (.iconst 0, 1) := by decide +kernel
theorem dX5_fetch_30 : decode cX5_fetch 30 = .ok (.invokestatic 53, 3) := by decide +kernel
theorem dX5_fetch_33 : decode cX5_fetch 33 = .ok (.aload 4, 2) := by decide +kernel
theorem dX5_fetch_35 : decode cX5_fetch 35 = .ok (.iload_n 3, 1) := by decide +kernel
theorem dX5_fetch_36 : decode cX5_fetch 36 = .ok (.invokestatic 127, 3) := by decide +kernel
theorem dX5_fetch_39 : decode cX5_fetch 39 = .ok (.istore 5, 2) := by decide +kernel
theorem dX5_fetch_41 : decode cX5_fetch 41 = .ok (.aload 4, 2) := by decide +kernel
theorem dX5_fetch_43 : decode cX5_fetch 43 = .ok (.invokevirtual 49, 3) := by decide +kernel
theorem dX5_fetch_46 : decode cX5_fetch 46 = .ok (.getfield 131, 3) := by decide +kernel
theorem dX5_fetch_49 : decode cX5_fetch 49 = .ok (.iload 5, 2) := by decide +kernel
theorem dX5_fetch_51 : decode cX5_fetch 51 = .ok (.aaload, 1) := by decide +kernel
theorem dX5_fetch_52 : decode cX5_fetch 52 = .ok (.astore 6, 2) := by decide +kernel
theorem dX5_fetch_54 : decode cX5_fetch 54 = .ok (.aload_n 0, 1) := by decide +kernel
theorem dX5_fetch_55 : decode cX5_fetch 55 = .ok (.getfield 11, 3) := by decide +kernel
theorem dX5_fetch_58 : decode cX5_fetch 58 = .ok (.iload_n 1, 1) := by decide +kernel
theorem dX5_fetch_59 : decode cX5_fetch 59 = .ok (.aload 6, 2) := by decide +kernel
theorem dX5_fetch_61 : decode cX5_fetch 61 = .ok (.aastore, 1) := by decide +kernel
theorem dX5_fetch_62 : decode cX5_fetch 62 = .ok (.aload 6, 2) := by decide +kernel
theorem dX5_fetch_64 : decode cX5_fetch 64 = .ok (.ifnonnull 7, 3) := by decide +kernel
theorem dX5_fetch_67 : decode cX5_fetch 67 = .ok (.iconst (-1), 1) := by decide +kernel
theorem dX5_fetch_68 : decode cX5_fetch 68 = .ok (.goto 8, 3) := by decide +kernel
theorem dX5_fetch_71 : decode cX5_fetch 71 = .ok (.aload 6, 2) := by decide +kernel
theorem dX5_fetch_73 : decode cX5_fetch 73 = .ok (.invokevirtual 101, 3) := by decide +kernel
theorem dX5_fetch_76 : decode cX5_fetch 76 = .ok (.ireturn, 1) := by decide +kernel
theorem dX5_link_0 : decode cX5_link 0 = .ok (.iload_n 1, 1) := by decide +kernel
theorem dX5_link_1 : decode cX5_link 1 = .ok (.invokestatic 19, 3) := by decide +kernel
theorem dX5_link_4 : decode cX5_link 4 = .ok (.iload_n 2, 1) := by decide +kernel
theorem dX5_link_5 : decode cX5_link 5 = .ok (.invokestatic 19, 3) := by decide +kernel
theorem dX5_link_8 : decode cX5_link 8 = .ok (.aload_n 0, 1) := by decide +kernel
theorem dX5_link_9 : decode cX5_link 9 = .ok (.iload_n 2, 1) := by decide +kernel
theorem dX5_link_10 : decode cX5_link 10 = .ok (.invokevirtual 134, 3) := by decide +kernel
theorem dX5_link_13 : decode cX5_link 13 = .ok (.astore_n 3, 1) := by decide +kernel
theorem dX5_link_14 : decode cX5_link 14 = .ok (.aload_n 0, 1) := by decide +kernel
theorem dX5_link_15 : decode cX5_link 15 = .ok (.iload_n 1, 1) := by decide +kernel
theorem dX5_link_16 : decode cX5_link 16 = .ok (.invokevirtual 138, 3) := by decide +kernel
theorem dX5_link_19 : decode cX5_link 19 = .ok (.aload_n 3, 1) := by decide +kernel
theorem dX5_link_20 : decode cX5_link 20 = .ok (.putfield 141, 3) := by decide +kernel
theorem dX5_link_23 : decode cX5_link 23 = .ok (.return_, 1) := by decide +kernel
theorem dX5_follow_0 : decode cX5_follow 0 = .ok (.iload_n 1, 1) := by decide +kernel
theorem dX5_follow_1 : decode cX5_follow 1 = .ok (.invokestatic 19, 3) := by decide +kernel
theorem dX5_follow_4 : decode cX5_follow 4 = .ok (.iload_n 2, 1) := by decide +kernel
theorem dX5_follow_5 : decode cX5_follow 5 = .ok (.invokestatic 19, 3) := by decide +kernel
theorem dX5_follow_8 : decode cX5_follow 8 = .ok (.aload_n 0, 1) := by decide +kernel
theorem dX5_follow_9 : decode cX5_follow 9 = .ok (.iload_n 2, 1) := by decide +kernel
theorem dX5_follow_10 : decode cX5_follow 10 = .ok (.invokevirtual 138, 3) := by decide +kernel
theorem dX5_follow_13 : decode cX5_follow 13 = .ok (.getfield 141, 3) := by decide +kernel
theorem dX5_follow_16 : decode cX5_follow 16 = .ok (.astore_n 3, 1) := by decide +kernel
theorem dX5_follow_17 : decode cX5_follow 17 = .ok (.aload_n 0, 1) := by decide +kernel
theorem dX5_follow_18 : decode cX5_follow 18 = .ok (.getfield 11, 3) := by decide +kernel
theorem dX5_follow_21 : decode cX5_follow 21 = .ok (.iload_n 1, 1) := by decide +kernel
theorem dX5_follow_22 : decode cX5_follow 22 = .ok (.aload_n 3, 1) := by decide +kernel
theorem dX5_follow_23 : decode cX5_follow 23 = .ok (.aastore, 1) := by decide +kernel
theorem dX5_follow_24 : decode cX5_follow 24 = .ok (.aload_n 3, 1) := by decide +kernel
theorem dX5_follow_25 : decode cX5_follow 25 = .ok (.ifnonnull 7, 3) := by decide +kernel
theorem dX5_follow_28 : decode cX5_follow 28 = .ok (.iconst 1, 1) := by decide +kernel
theorem dX5_follow_29 : decode cX5_follow 29 = .ok (.goto 4, 3) := by decide +kernel
theorem dX5_follow_32 : decode cX5_follow 32 = .ok (.iconst 0, 1) := by decide +kernel
theorem dX5_follow_33 : decode cX5_follow 33 = .ok (.ireturn, 1) := by decide +kernel
theorem dX5_exchange_0 : decode cX5_exchange 0 = .ok (.iload_n 1, 1) := by decide +kernel
theorem dX5_exchange_1 : decode cX5_exchange 1 = .ok (.invokestatic 19, 3) := by decide +kernel
theorem dX5_exchange_4 : decode cX5_exchange 4 = .ok (.aload_n 0, 1) := by decide +kernel
theorem dX5_exchange_5 : decode cX5_exchange 5 = .ok (.iload_n 1, 1) := by decide +kernel
theorem dX5_exchange_6 : decode cX5_exchange 6 = .ok (.invokevirtual 138, 3) := by decide +kernel
theorem dX5_exchange_9 : decode cX5_exchange 9 = .ok (.astore 4, 2) := by decide +kernel
theorem dX5_exchange_11 : decode cX5_exchange 11 = .ok (.aload 4, 2) := by decide +kernel
theorem dX5_exchange_13 : decode cX5_exchange 13 = .ok (.getfield 145, 3) := by decide +kernel
theorem dX5_exchange_16 : decode cX5_exchange 16 = .ok (.lstore 5, 2) := by decide +kernel
theorem dX5_exchange_18 : decode cX5_exchange 18 = .ok (.aload 4, 2) := by decide +kernel
theorem dX5_exchange_20 : decode cX5_exchange 20 = .ok (.lload_n 2, 1) := by decide +kernel
theorem dX5_exchange_21 : decode cX5_exchange 21 = .ok (.putfield 145, 3) := by decide +kernel
theorem dX5_exchange_24 : decode cX5_exchange 24 = .ok (.lload 5, 2) := by decide +kernel
theorem dX5_exchange_26 : decode cX5_exchange 26 = .ok (.lreturn, 1) := by decide +kernel
theorem dX5_total_0 : decode cX5_total 0 = .ok (.iload_n 1, 1) := by decide +kernel
theorem dX5_total_1 : decode cX5_total 1 = .ok (.invokestatic 19, 3) := by decide +kernel
theorem dX5_total_4 : decode cX5_total 4 = .ok (.aload_n 0, 1) := by decide +kernel
theorem dX5_total_5 : decode cX5_total 5 = .ok (.iload_n 1, 1) := by decide +kernel
theorem dX5_total_6 : decode cX5_total 6 = .ok (.invokevirtual 138, 3) := by decide +kernel
theorem dX5_total_9 : decode cX5_total 9 = .ok (.astore_n 2, 1) := by decide +kernel
theorem dX5_total_10 : decode cX5_total 10 = .ok (.lconst 0, 1) := by decide +kernel
theorem dX5_total_11 : decode cX5_total 11 = .ok (.lstore_n 3, 1) := by decide +kernel
theorem dX5_total_12 : decode cX5_total 12 = .ok (.iconst 0, 1) := by decide +kernel
theorem dX5_total_13 : decode cX5_total 13 = .ok (.istore 5, 2) := by decide +kernel
theorem dX5_total_15 : decode cX5_total 15 = .ok (.iload 5, 2) := by decide +kernel
theorem dX5_total_17 : decode cX5_total 17 = .ok (.bipush 20, 2) := by decide +kernel
theorem dX5_total_19 : decode cX5_total 19 = .ok (.if_icmp .ge 25, 3) := by decide +kernel
theorem dX5_total_22 : decode cX5_total 22 = .ok (.aload_n 2, 1) := by decide +kernel
theorem dX5_total_23 : decode cX5_total 23 = .ok (.ifnull 21, 3) := by decide +kernel
theorem dX5_total_26 : decode cX5_total 26 = .ok (.lload_n 3, 1) := by decide +kernel
theorem dX5_total_27 : decode cX5_total 27 = .ok (.aload_n 2, 1) := by decide +kernel
theorem dX5_total_28 : decode cX5_total 28 = .ok (.getfield 145, 3) := by decide +kernel
theorem dX5_total_31 : decode cX5_total 31 = .ok (.ladd, 1) := by decide +kernel
theorem dX5_total_32 : decode cX5_total 32 = .ok (.lstore_n 3, 1) := by decide +kernel
theorem dX5_total_33 : decode cX5_total 33 = .ok (.aload_n 2, 1) := by decide +kernel
theorem dX5_total_34 : decode cX5_total 34 = .ok (.getfield 141, 3) := by decide +kernel
theorem dX5_total_37 : decode cX5_total 37 = .ok (.astore_n 2, 1) := by decide +kernel
theorem dX5_total_38 : decode cX5_total 38 = .ok (.iinc 5 1, 3) := by decide +kernel
theorem dX5_total_41 : decode cX5_total 41 = .ok (.goto (-26), 3) := by decide +kernel
theorem dX5_total_44 : decode cX5_total 44 = .ok (.lload_n 3, 1) := by decide +kernel
theorem dX5_total_45 : decode cX5_total 45 = .ok (.lreturn, 1) := by decide +kernel
theorem dX5_combine_0 : decode cX5_combine 0 = .ok (.iload_n 1, 1) := by decide +kernel
theorem dX5_combine_1 : decode cX5_combine 1 = .ok (.ifCond .lt 12, 3) := by decide +kernel
theorem dX5_combine_4 : decode cX5_combine 4 = .ok (.iload_n 1, 1) := by decide +kernel
theorem dX5_combine_5 : decode cX5_combine 5 = .ok (.iconst 4, 1) := by decide +kernel
theorem dX5_combine_6 : decode cX5_combine 6 = .ok (.if_icmp .gt 7, 3) := by decide +kernel
theorem dX5_combine_9 : decode cX5_combine 9 = .ok (.iconst 1, 1) := by decide +kernel
theorem dX5_combine_10 : decode cX5_combine 10 = .ok (.goto 4, 3) := by decide +kernel
theorem dX5_combine_13 : decode cX5_combine 13 = .ok (.iconst 0, 1) := by decide +kernel
theorem dX5_combine_14 : decode cX5_combine 14 = .ok (.invokestatic 23, 3) := by decide +kernel
theorem dX5_combine_17 : decode cX5_combine 17 = .ok (.iload_n 2, 1) := by decide +kernel
theorem dX5_combine_18 : decode cX5_combine 18 = .ok (.invokestatic 19, 3) := by decide +kernel
theorem dX5_combine_21 : decode cX5_combine 21 = .ok (.iload 4, 2) := by decide +kernel
theorem dX5_combine_23 : decode cX5_combine 23 = .ok (.invokestatic 19, 3) := by decide +kernel
theorem dX5_combine_26 : decode cX5_combine 26 = .ok (.aload_n 0, 1) := by decide +kernel
theorem dX5_combine_27 : decode cX5_combine 27 = .ok (.iload_n 2, 1) := by decide +kernel
theorem dX5_combine_28 : decode cX5_combine 28 = .ok (.invokevirtual 45, 3) := by decide +kernel
theorem dX5_combine_31 : decode cX5_combine 31 = .ok (.astore 6, 2) := by decide +kernel
theorem dX5_combine_33 : decode cX5_combine 33 = .ok (.aload_n 0, 1) := by decide +kernel
theorem dX5_combine_34 : decode cX5_combine 34 = .ok (.iload 4, 2) := by decide +kernel
theorem dX5_combine_36 : decode cX5_combine 36 = .ok (.invokevirtual 45, 3) := by decide +kernel
theorem dX5_combine_39 : decode cX5_combine 39 = .ok (.astore 7, 2) := by decide +kernel
theorem dX5_combine_41 : decode cX5_combine 41 = .ok (.aload 6, 2) := by decide +kernel
theorem dX5_combine_43 : decode cX5_combine 43 = .ok (.invokevirtual 101, 3) := by decide +kernel
theorem dX5_combine_46 : decode cX5_combine 46 = .ok (.iconst 5, 1) := by decide +kernel
theorem dX5_combine_47 : decode cX5_combine 47 = .ok (.if_icmp .gt 16, 3) := by decide +kernel
theorem dX5_combine_50 : decode cX5_combine 50 = .ok (.aload 7, 2) := by decide +kernel
theorem dX5_combine_52 : decode cX5_combine 52 = .ok (.invokevirtual 101, 3) := by decide +kernel
theorem dX5_combine_55 : decode cX5_combine 55 = .ok (.iconst 5, 1) := by decide +kernel
theorem dX5_combine_56 : decode cX5_combine 56 = .ok (.if_icmp .gt 7, 3) := by decide +kernel
theorem dX5_combine_59 : decode cX5_combine 59 = .ok (.iconst 1, 1) := by decide +kernel
theorem dX5_combine_60 : decode cX5_combine 60 = .ok (.goto 4, 3) := by decide +kernel
theorem dX5_combine_63 : decode cX5_combine 63 = .ok (.iconst 0, 1) := by decide +kernel
theorem dX5_combine_64 : decode cX5_combine 64 = .ok (.invokestatic 53, 3) := by decide +kernel
theorem dX5_combine_67 : decode cX5_combine 67 = .ok (.aload 6, 2) := by decide +kernel
theorem dX5_combine_69 : decode cX5_combine 69 = .ok (.iload_n 3, 1) := by decide +kernel
theorem dX5_combine_70 : decode cX5_combine 70 = .ok (.invokestatic 104, 3) := by decide +kernel
theorem dX5_combine_73 : decode cX5_combine 73 = .ok (.lstore 8, 2) := by decide +kernel
theorem dX5_combine_75 : decode cX5_combine 75 = .ok (.aload 7, 2) := by decide +kernel
theorem dX5_combine_77 : decode cX5_combine 77 = .ok (.iload 5, 2) := by decide +kernel
theorem dX5_combine_79 : decode cX5_combine 79 = .ok (.invokestatic 104, 3) := by decide +kernel
theorem dX5_combine_82 : decode cX5_combine 82 = .ok (.lstore 10, 2) := by decide +kernel
theorem dX5_combine_84 : decode cX5_combine 84 = .ok (.iload_n 1, 1) := by decide +kernel
theorem dX5_combine_85 : decode cX5_combine 85 = .ok (.lload 8, 2) := by decide +kernel
theorem dX5_combine_87 : decode cX5_combine 87 = .ok (.lload 10, 2) := by decide +kernel
theorem dX5_combine_89 : decode cX5_combine 89 = .ok (.invokestatic 149, 3) := by decide +kernel
theorem dX5_combine_92 : decode cX5_combine 92 = .ok (.lstore 12, 2) := by decide +kernel
theorem dX5_combine_94 : decode cX5_combine 94 = .ok (.aload 6, 2) := by decide +kernel
theorem dX5_combine_96 : decode cX5_combine 96 = .ok (.invokevirtual 101, 3) := by decide +kernel
theorem dX5_combine_99 : decode cX5_combine 99 = .ok (.iconst 5, 1) := by decide +kernel
theorem dX5_combine_100 : decode cX5_combine 100 = .ok (.if_icmp .ge 16, 3) := by decide +kernel
theorem dX5_combine_103 : decode cX5_combine 103 = .ok (.aload 7, 2) := by decide +kernel
theorem dX5_combine_105 : decode cX5_combine 105 = .ok (.invokevirtual 101, 3) := by decide +kernel
theorem dX5_combine_108 : decode cX5_combine 108 = .ok (.iconst 5, 1) := by decide +kernel
theorem dX5_combine_109 : decode cX5_combine 109 = .ok (.if_icmp .ge 7, 3) := by decide +kernel
theorem dX5_combine_112 : decode cX5_combine 112 = .ok (.iconst 1, 1) := by decide +kernel
theorem dX5_combine_113 : decode cX5_combine 113 = .ok (.goto 4, 3) := by decide +kernel
theorem dX5_combine_116 : decode cX5_combine 116 = .ok (.iconst 0, 1) := by decide +kernel
theorem dX5_combine_117 : decode cX5_combine 117 = .ok (.istore 14, 2) := by decide +kernel
theorem dX5_combine_119 : decode cX5_combine 119 = .ok (.aload 6, 2) := by decide +kernel
theorem dX5_combine_121 : decode cX5_combine 121 = .ok (.iload_n 3, 1) := by decide +kernel
theorem dX5_combine_122 : decode cX5_combine 122 = .ok (.iload 14, 2) := by decide +kernel
theorem dX5_combine_124 : decode cX5_combine 124 = .ok (.ifCond .eq 10, 3) := by decide +kernel
theorem dX5_combine_127 : decode cX5_combine 127 = .ok (.lload 12, 2) := by decide +kernel
theorem dX5_combine_129 : decode cX5_combine 129 = .ok (.l2i, 1) := by decide +kernel
theorem dX5_combine_130 : decode cX5_combine 130 = .ok (.i2l, 1) := by decide +kernel
theorem dX5_combine_131 : decode cX5_combine 131 = .ok (.goto 5, 3) := by decide +kernel
theorem dX5_combine_134 : decode cX5_combine 134 = .ok (.lload 12, 2) := by decide +kernel
theorem dX5_combine_136 : decode cX5_combine 136 = .ok (.invokestatic 108, 3) := by decide +kernel
theorem dX5_combine_139 : decode cX5_combine 139 = .ok (.lreturn, 1) := by decide +kernel
theorem dX5_move_0 : decode cX5_move 0 = .ok (.iload_n 1, 1) := by decide +kernel
theorem dX5_move_1 : decode cX5_move 1 = .ok (.invokestatic 19, 3) := by decide +kernel
theorem dX5_move_4 : decode cX5_move 4 = .ok (.iload_n 3, 1) := by decide +kernel
theorem dX5_move_5 : decode cX5_move 5 = .ok (.invokestatic 19, 3) := by decide +kernel
theorem dX5_move_8 : decode cX5_move 8 = .ok (.iload 5, 2) := by decide +kernel
theorem dX5_move_10 : decode cX5_move 10 = .ok (.ifCond .lt 14, 3) := by decide +kernel
theorem dX5_move_13 : decode cX5_move 13 = .ok (.iload 5, 2) := by decide +kernel
theorem dX5_move_15 : decode cX5_move 15 = .ok (.bipush 24, 2) := by decide +kernel
theorem dX5_move_17 : decode cX5_move 17 = .ok (.if_icmp .gt 7, 3) := by decide +kernel
theorem dX5_move_20 : decode cX5_move 20 = .ok (.iconst 1, 1) := by decide +kernel
theorem dX5_move_21 : decode cX5_move 21 = .ok (.goto 4, 3) := by decide +kernel
theorem dX5_move_24 : decode cX5_move 24 = .ok (.iconst 0, 1) := by decide +kernel
theorem dX5_move_25 : decode cX5_move 25 = .ok (.invokestatic 23, 3) := by decide +kernel
theorem dX5_move_28 : decode cX5_move 28 = .ok (.aload_n 0, 1) := by decide +kernel
theorem dX5_move_29 : decode cX5_move 29 = .ok (.iload_n 1, 1) := by decide +kernel
theorem dX5_move_30 : decode cX5_move 30 = .ok (.invokevirtual 45, 3) := by decide +kernel
theorem dX5_move_33 : decode cX5_move 33 = .ok (.astore 6, 2) := by decide +kernel
theorem dX5_move_35 : decode cX5_move 35 = .ok (.aload_n 0, 1) := by decide +kernel
theorem dX5_move_36 : decode cX5_move 36 = .ok (.iload_n 3, 1) := by decide +kernel
theorem dX5_move_37 : decode cX5_move 37 = .ok (.invokevirtual 45, 3) := by decide +kernel
theorem dX5_move_40 : decode cX5_move 40 = .ok (.astore 7, 2) := by decide +kernel
theorem dX5_move_42 : decode cX5_move 42 = .ok (.aload 6, 2) := by decide +kernel
theorem dX5_move_44 : decode cX5_move 44 = .ok (.invokevirtual 101, 3) := by decide +kernel
theorem dX5_move_47 : decode cX5_move 47 = .ok (.bipush 7, 2) := by decide +kernel
theorem dX5_move_49 : decode cX5_move 49 = .ok (.if_icmp .gt 17, 3) := by decide +kernel
theorem dX5_move_52 : decode cX5_move 52 = .ok (.aload 7, 2) := by decide +kernel
theorem dX5_move_54 : decode cX5_move 54 = .ok (.invokevirtual 101, 3) := by decide +kernel
theorem dX5_move_57 : decode cX5_move 57 = .ok (.bipush 7, 2) := by decide +kernel
theorem dX5_move_59 : decode cX5_move 59 = .ok (.if_icmp .gt 7, 3) := by decide +kernel
theorem dX5_move_62 : decode cX5_move 62 = .ok (.iconst 1, 1) := by decide +kernel
theorem dX5_move_63 : decode cX5_move 63 = .ok (.goto 4, 3) := by decide +kernel
theorem dX5_move_66 : decode cX5_move 66 = .ok (.iconst 0, 1) := by decide +kernel
theorem dX5_move_67 : decode cX5_move 67 = .ok (.invokestatic 53, 3) := by decide +kernel
theorem dX5_move_70 : decode cX5_move 70 = .ok (.iconst 0, 1) := by decide +kernel
theorem dX5_move_71 : decode cX5_move 71 = .ok (.istore 8, 2) := by decide +kernel
theorem dX5_move_73 : decode cX5_move 73 = .ok (.iload 8, 2) := by decide +kernel
theorem dX5_move_75 : decode cX5_move 75 = .ok (.iload 5, 2) := by decide +kernel
theorem dX5_move_77 : decode cX5_move 77 = .ok (.if_icmp .ge 33, 3) := by decide +kernel
theorem dX5_move_80 : decode cX5_move 80 = .ok (.aload 7, 2) := by decide +kernel
theorem dX5_move_82 : decode cX5_move 82 = .ok (.iload 4, 2) := by decide +kernel
theorem dX5_move_84 : decode cX5_move 84 = .ok (.iload 8, 2) := by decide +kernel
theorem dX5_move_86 : decode cX5_move 86 = .ok (.iadd, 1) := by decide +kernel
theorem dX5_move_87 : decode cX5_move 87 = .ok (.invokestatic 104, 3) := by decide +kernel
theorem dX5_move_90 : decode cX5_move 90 = .ok (.lstore 9, 2) := by decide +kernel
theorem dX5_move_92 : decode cX5_move 92 = .ok (.aload 6, 2) := by decide +kernel
theorem dX5_move_94 : decode cX5_move 94 = .ok (.iload_n 2, 1) := by decide +kernel
theorem dX5_move_95 : decode cX5_move 95 = .ok (.iload 8, 2) := by decide +kernel
theorem dX5_move_97 : decode cX5_move 97 = .ok (.iadd, 1) := by decide +kernel
theorem dX5_move_98 : decode cX5_move 98 = .ok (.lload 9, 2) := by decide +kernel
theorem dX5_move_100 : decode cX5_move 100 = .ok (.invokestatic 108, 3) := by decide +kernel
theorem dX5_move_103 : decode cX5_move 103 = .ok (.pop2, 1) := by decide +kernel
theorem dX5_move_104 : decode cX5_move 104 = .ok (.iinc 8 1, 3) := by decide +kernel
theorem dX5_move_107 : decode cX5_move 107 = .ok (.goto (-34), 3) := by decide +kernel
theorem dX5_move_110 : decode cX5_move 110 = .ok (.iload 5, 2) := by decide +kernel
theorem dX5_move_112 : decode cX5_move 112 = .ok (.ireturn, 1) := by decide +kernel
theorem dX5_holdNew_0 : decode cX5_holdNew 0 = .ok (.aload_n 0, 1) := by decide +kernel
theorem dX5_holdNew_1 : decode cX5_holdNew 1 = .ok (.getfield 11, 3) := by decide +kernel
theorem dX5_holdNew_4 : decode cX5_holdNew 4 = .ok (.iload_n 1, 1) := by decide +kernel
theorem dX5_holdNew_5 : decode cX5_holdNew 5 = .ok (.aload_n 2, 1) := by decide +kernel
theorem dX5_holdNew_6 : decode cX5_holdNew 6 = .ok (.aastore, 1) := by decide +kernel
theorem dX5_holdNew_7 : decode cX5_holdNew 7 = .ok (.aload_n 0, 1) := by decide +kernel
theorem dX5_holdNew_8 : decode cX5_holdNew 8 = .ok (.dup, 1) := by decide +kernel
theorem dX5_holdNew_9 : decode cX5_holdNew 9 = .ok (.getfield 15, 3) := by decide +kernel
theorem dX5_holdNew_12 : decode cX5_holdNew 12 = .ok (.iconst 1, 1) := by decide +kernel
theorem dX5_holdNew_13 : decode cX5_holdNew 13 = .ok (.iadd, 1) := by decide +kernel
theorem dX5_holdNew_14 : decode cX5_holdNew 14 = .ok (.putfield 15, 3) := by decide +kernel
theorem dX5_holdNew_17 : decode cX5_holdNew 17 = .ok (.aload_n 0, 1) := by decide +kernel
theorem dX5_holdNew_18 : decode cX5_holdNew 18 = .ok (.getfield 15, 3) := by decide +kernel
theorem dX5_holdNew_21 : decode cX5_holdNew 21 = .ok (.ireturn, 1) := by decide +kernel
theorem dX5_itemIn_0 : decode cX5_itemIn 0 = .ok (.aload_n 0, 1) := by decide +kernel
theorem dX5_itemIn_1 : decode cX5_itemIn 1 = .ok (.getfield 11, 3) := by decide +kernel
theorem dX5_itemIn_4 : decode cX5_itemIn 4 = .ok (.iload_n 1, 1) := by decide +kernel
theorem dX5_itemIn_5 : decode cX5_itemIn 5 = .ok (.aaload, 1) := by decide +kernel
theorem dX5_itemIn_6 : decode cX5_itemIn 6 = .ok (.astore_n 2, 1) := by decide +kernel
theorem dX5_itemIn_7 : decode cX5_itemIn 7 = .ok (.aload_n 2, 1) := by decide +kernel
theorem dX5_itemIn_8 : decode cX5_itemIn 8 = .ok (.ifnull 7, 3) := by decide +kernel
theorem dX5_itemIn_11 : decode cX5_itemIn 11 = .ok (.iconst 1, 1) := by decide +kernel
theorem dX5_itemIn_12 : decode cX5_itemIn 12 = .ok (.goto 4, 3) := by decide +kernel
theorem dX5_itemIn_15 : decode cX5_itemIn 15 = .ok (.iconst 0, 1) := by decide +kernel
theorem dX5_itemIn_16 : decode cX5_itemIn 16 = .ok (.invokestatic 87, 3) := by decide +kernel
theorem dX5_itemIn_19 : decode cX5_itemIn 19 = .ok (.aload_n 2, 1) := by decide +kernel
theorem dX5_itemIn_20 : decode cX5_itemIn 20 = .ok (.areturn, 1) := by decide +kernel
theorem dX5_vectorOf_0 : decode cX5_vectorOf 0 = .ok (.aload_n 0, 1) := by decide +kernel
theorem dX5_vectorOf_1 : decode cX5_vectorOf 1 = .ok (.instanceof 30, 3) := by decide +kernel
theorem dX5_vectorOf_4 : decode cX5_vectorOf 4 = .ok (.ifCond .eq 12, 3) := by decide +kernel
theorem dX5_vectorOf_7 : decode cX5_vectorOf 7 = .ok (.aload_n 0, 1) := by decide +kernel
theorem dX5_vectorOf_8 : decode cX5_vectorOf 8 = .ok (.checkcast 30, 3) := by decide +kernel
theorem dX5_vectorOf_11 : decode cX5_vectorOf 11 = .ok (.astore_n 2, 1) := by decide +kernel
theorem dX5_vectorOf_12 : decode cX5_vectorOf 12 = .ok (.aload_n 2, 1) := by decide +kernel
theorem dX5_vectorOf_13 : decode cX5_vectorOf 13 = .ok (.goto 4, 3) := by decide +kernel
theorem dX5_vectorOf_16 : decode cX5_vectorOf 16 = .ok (.aconst_null, 1) := by decide +kernel
theorem dX5_vectorOf_17 : decode cX5_vectorOf 17 = .ok (.astore_n 1, 1) := by decide +kernel
theorem dX5_vectorOf_18 : decode cX5_vectorOf 18 = .ok (.aload_n 1, 1) := by decide +kernel
theorem dX5_vectorOf_19 : decode cX5_vectorOf 19 = .ok (.ifnull 7, 3) := by decide +kernel
theorem dX5_vectorOf_22 : decode cX5_vectorOf 22 = .ok (.iconst 1, 1) := by decide +kernel
theorem dX5_vectorOf_23 : decode cX5_vectorOf 23 = .ok (.goto 4, 3) := by decide +kernel
theorem dX5_vectorOf_26 : decode cX5_vectorOf 26 = .ok (.iconst 0, 1) := by decide +kernel
theorem dX5_vectorOf_27 : decode cX5_vectorOf 27 = .ok (.invokestatic 53, 3) := by decide +kernel
theorem dX5_vectorOf_30 : decode cX5_vectorOf 30 = .ok (.aload_n 1, 1) := by decide +kernel
theorem dX5_vectorOf_31 : decode cX5_vectorOf 31 = .ok (.areturn, 1) := by decide +kernel
theorem dX5_gridIn_0 : decode cX5_gridIn 0 = .ok (.aload_n 0, 1) := by decide +kernel
theorem dX5_gridIn_1 : decode cX5_gridIn 1 = .ok (.getfield 11, 3) := by decide +kernel
theorem dX5_gridIn_4 : decode cX5_gridIn 4 = .ok (.iload_n 1, 1) := by decide +kernel
theorem dX5_gridIn_5 : decode cX5_gridIn 5 = .ok (.aaload, 1) := by decide +kernel
theorem dX5_gridIn_6 : decode cX5_gridIn 6 = .ok (.astore_n 2, 1) := by decide +kernel
theorem dX5_gridIn_7 : decode cX5_gridIn 7 = .ok (.aload_n 2, 1) := by decide +kernel
theorem dX5_gridIn_8 : decode cX5_gridIn 8 = .ok (.instanceof 39, 3) := by decide +kernel
theorem dX5_gridIn_11 : decode cX5_gridIn 11 = .ok (.ifCond .eq 14, 3) := by decide +kernel
theorem dX5_gridIn_14 : decode cX5_gridIn 14 = .ok (.aload_n 2, 1) := by decide +kernel
theorem dX5_gridIn_15 : decode cX5_gridIn 15 = .ok (.checkcast 39, 3) := by decide +kernel
theorem dX5_gridIn_18 : decode cX5_gridIn 18 = .ok (.astore 4, 2) := by decide +kernel
theorem dX5_gridIn_20 : decode cX5_gridIn 20 = .ok (.aload 4, 2) := by decide +kernel
theorem dX5_gridIn_22 : decode cX5_gridIn 22 = .ok (.goto 4, 3) := by decide +kernel
theorem dX5_gridIn_25 : decode cX5_gridIn 25 = .ok (.aconst_null, 1) := by decide +kernel
theorem dX5_gridIn_26 : decode cX5_gridIn 26 = .ok (.astore_n 3, 1) := by decide +kernel
theorem dX5_gridIn_27 : decode cX5_gridIn 27 = .ok (.aload_n 2, 1) := by decide +kernel
theorem dX5_gridIn_28 : decode cX5_gridIn 28 = .ok (.ifnull 7, 3) := by decide +kernel
theorem dX5_gridIn_31 : decode cX5_gridIn 31 = .ok (.aload_n 3, 1) := by decide +kernel
theorem dX5_gridIn_32 : decode cX5_gridIn 32 = .ok (.ifnull 7, 3) := by decide +kernel
theorem dX5_gridIn_35 : decode cX5_gridIn 35 = .ok (.iconst 1, 1) := by decide +kernel
theorem dX5_gridIn_36 : decode cX5_gridIn 36 = .ok (.goto 4, 3) := by decide +kernel
theorem dX5_gridIn_39 : decode cX5_gridIn 39 = .ok (.iconst 0, 1) := by decide +kernel
theorem dX5_gridIn_40 : decode cX5_gridIn 40 = .ok (.invokestatic 53, 3) := by decide +kernel
theorem dX5_gridIn_43 : decode cX5_gridIn 43 = .ok (.aload_n 3, 1) := by decide +kernel
theorem dX5_gridIn_44 : decode cX5_gridIn 44 = .ok (.ifnull 7, 3) := by decide +kernel
theorem dX5_gridIn_47 : decode cX5_gridIn 47 = .ok (.iconst 1, 1) := by decide +kernel
theorem dX5_gridIn_48 : decode cX5_gridIn 48 = .ok (.goto 4, 3) := by decide +kernel
theorem dX5_gridIn_51 : decode cX5_gridIn 51 = .ok (.iconst 0, 1) := by decide +kernel
theorem dX5_gridIn_52 : decode cX5_gridIn 52 = .ok (.invokestatic 87, 3) := by decide +kernel
theorem dX5_gridIn_55 : decode cX5_gridIn 55 = .ok (.aload_n 3, 1) := by decide +kernel
theorem dX5_gridIn_56 : decode cX5_gridIn 56 = .ok (.areturn, 1) := by decide +kernel
theorem dX5_recordIn_0 : decode cX5_recordIn 0 = .ok (.aload_n 0, 1) := by decide +kernel
theorem dX5_recordIn_1 : decode cX5_recordIn 1 = .ok (.iload_n 1, 1) := by decide +kernel
theorem dX5_recordIn_2 : decode cX5_recordIn 2 = .ok (.invokevirtual 134, 3) := by decide +kernel
theorem dX5_recordIn_5 : decode cX5_recordIn 5 = .ok (.astore_n 2, 1) := by decide +kernel
theorem dX5_recordIn_6 : decode cX5_recordIn 6 = .ok (.aload_n 2, 1) := by decide +kernel
theorem dX5_recordIn_7 : decode cX5_recordIn 7 = .ok (.ifnull 7, 3) := by decide +kernel
theorem dX5_recordIn_10 : decode cX5_recordIn 10 = .ok (.iconst 1, 1) := by decide +kernel
theorem dX5_recordIn_11 : decode cX5_recordIn 11 = .ok (.goto 4, 3) := by decide +kernel
theorem dX5_recordIn_14 : decode cX5_recordIn 14 = .ok (.iconst 0, 1) := by decide +kernel
theorem dX5_recordIn_15 : decode cX5_recordIn 15 = .ok (.invokestatic 87, 3) := by decide +kernel
theorem dX5_recordIn_18 : decode cX5_recordIn 18 = .ok (.aload_n 2, 1) := by decide +kernel
theorem dX5_recordIn_19 : decode cX5_recordIn 19 = .ok (.areturn, 1) := by decide +kernel
theorem dX5_recordOrNone_0 : decode cX5_recordOrNone 0 = .ok (.aload_n 0, 1) := by decide +kernel
theorem dX5_recordOrNone_1 : decode cX5_recordOrNone 1 = .ok (.getfield 11, 3) := by decide +kernel
theorem dX5_recordOrNone_4 : decode cX5_recordOrNone 4 = .ok (.iload_n 1, 1) := by decide +kernel
theorem dX5_recordOrNone_5 : decode cX5_recordOrNone 5 = .ok (.aaload, 1) := by decide +kernel
theorem dX5_recordOrNone_6 : decode cX5_recordOrNone 6 = .ok (.astore_n 2, 1) := by decide +kernel
theorem dX5_recordOrNone_7 : decode cX5_recordOrNone 7 = .ok (.aload_n 2, 1) := by decide +kernel
theorem dX5_recordOrNone_8 : decode cX5_recordOrNone 8 = .ok (.instanceof 42, 3) := by decide +kernel
theorem dX5_recordOrNone_11 : decode cX5_recordOrNone 11 = .ok (.ifCond .eq 14, 3) := by decide +kernel
theorem dX5_recordOrNone_14 : decode cX5_recordOrNone 14 = .ok (.aload_n 2, 1) := by decide +kernel
theorem dX5_recordOrNone_15 : decode cX5_recordOrNone 15 = .ok (.checkcast 42, 3) := by decide +kernel
theorem dX5_recordOrNone_18 : decode cX5_recordOrNone 18 = .ok (.astore 4, 2) := by decide +kernel
theorem dX5_recordOrNone_20 : decode cX5_recordOrNone 20 = .ok (.aload 4, 2) := by decide +kernel
theorem dX5_recordOrNone_22 : decode cX5_recordOrNone 22 = .ok (.goto 4, 3) := by decide +kernel
theorem dX5_recordOrNone_25 : decode cX5_recordOrNone 25 = .ok (.aconst_null, 1) := by decide +kernel
theorem dX5_recordOrNone_26 : decode cX5_recordOrNone 26 = .ok (.astore_n 3, 1) := by decide +kernel
theorem dX5_recordOrNone_27 : decode cX5_recordOrNone 27 = .ok (.aload_n 2, 1) := by decide +kernel
theorem dX5_recordOrNone_28 : decode cX5_recordOrNone 28 = .ok (.ifnull 7, 3) := by decide +kernel
theorem dX5_recordOrNone_31 : decode cX5_recordOrNone 31 = .ok (.aload_n 3, 1) := by decide +kernel
theorem dX5_recordOrNone_32 : decode cX5_recordOrNone 32 = .ok (.ifnull 7, 3) := by decide +kernel
theorem dX5_recordOrNone_35 : decode cX5_recordOrNone 35 = .ok (.iconst 1, 1) := by decide +kernel
theorem dX5_recordOrNone_36 : decode cX5_recordOrNone 36 = .ok (.goto 4, 3) := by decide +kernel
theorem dX5_recordOrNone_39 : decode cX5_recordOrNone 39 = .ok (.iconst 0, 1) := by decide +kernel
theorem dX5_recordOrNone_40 : decode cX5_recordOrNone 40 = .ok (.invokestatic 53, 3) := by decide +kernel
theorem dX5_recordOrNone_43 : decode cX5_recordOrNone 43 = .ok (.aload_n 3, 1) := by decide +kernel
theorem dX5_recordOrNone_44 : decode cX5_recordOrNone 44 = .ok (.areturn, 1) := by decide +kernel
theorem dX5_loseRow_0 : decode cX5_loseRow 0 = .ok (.iload_n 1, 1) := by decide +kernel
theorem dX5_loseRow_1 : decode cX5_loseRow 1 = .ok (.aload_n 0, 1) := by decide +kernel
theorem dX5_loseRow_2 : decode cX5_loseRow 2 = .ok (.getfield 94, 3) := by decide +kernel
theorem dX5_loseRow_5 : decode cX5_loseRow 5 = .ok (.arraylength, 1) := by decide +kernel
theorem dX5_loseRow_6 : decode cX5_loseRow 6 = .ok (.invokestatic 116, 3) := by decide +kernel
theorem dX5_loseRow_9 : decode cX5_loseRow 9 = .ok (.aload_n 0, 1) := by decide +kernel
theorem dX5_loseRow_10 : decode cX5_loseRow 10 = .ok (.getfield 94, 3) := by decide +kernel
theorem dX5_loseRow_13 : decode cX5_loseRow 13 = .ok (.iload_n 1, 1) := by decide +kernel
theorem dX5_loseRow_14 : decode cX5_loseRow 14 = .ok (.aaload, 1) := by decide +kernel
theorem dX5_loseRow_15 : decode cX5_loseRow 15 = .ok (.ifnull 7, 3) := by decide +kernel
theorem dX5_loseRow_18 : decode cX5_loseRow 18 = .ok (.iconst 1, 1) := by decide +kernel
theorem dX5_loseRow_19 : decode cX5_loseRow 19 = .ok (.goto 4, 3) := by decide +kernel
theorem dX5_loseRow_22 : decode cX5_loseRow 22 = .ok (.iconst 0, 1) := by decide +kernel
theorem dX5_loseRow_23 : decode cX5_loseRow 23 = .ok (.invokestatic 87, 3) := by decide +kernel
theorem dX5_loseRow_26 : decode cX5_loseRow 26 = .ok (.aload_n 0, 1) := by decide +kernel
theorem dX5_loseRow_27 : decode cX5_loseRow 27 = .ok (.getfield 94, 3) := by decide +kernel
theorem dX5_loseRow_30 : decode cX5_loseRow 30 = .ok (.iload_n 1, 1) := by decide +kernel
theorem dX5_loseRow_31 : decode cX5_loseRow 31 = .ok (.aaload, 1) := by decide +kernel
theorem dX5_loseRow_32 : decode cX5_loseRow 32 = .ok (.arraylength, 1) := by decide +kernel
theorem dX5_loseRow_33 : decode cX5_loseRow 33 = .ok (.istore_n 2, 1) := by decide +kernel
theorem dX5_loseRow_34 : decode cX5_loseRow 34 = .ok (.aload_n 0, 1) := by decide +kernel
theorem dX5_loseRow_35 : decode cX5_loseRow 35 = .ok (.getfield 94, 3) := by decide +kernel
theorem dX5_loseRow_38 : decode cX5_loseRow 38 = .ok (.iload_n 1, 1) := by decide +kernel
theorem dX5_loseRow_39 : decode cX5_loseRow 39 = .ok (.aconst_null, 1) := by decide +kernel
theorem dX5_loseRow_40 : decode cX5_loseRow 40 = .ok (.aastore, 1) := by decide +kernel
theorem dX5_loseRow_41 : decode cX5_loseRow 41 = .ok (.iload_n 2, 1) := by decide +kernel
theorem dX5_loseRow_42 : decode cX5_loseRow 42 = .ok (.ireturn, 1) := by decide +kernel
theorem dX5_loseStorage_0 : decode cX5_loseStorage 0 = .ok (.aload_n 0, 1) := by decide +kernel
theorem dX5_loseStorage_1 : decode cX5_loseStorage 1 = .ok (.invokevirtual 83, 3) := by decide +kernel
theorem dX5_loseStorage_4 : decode cX5_loseStorage 4 = .ok (.ifCond .ne 7, 3) := by decide +kernel
theorem dX5_loseStorage_7 : decode cX5_loseStorage 7 = .ok (.iconst 1, 1) := by decide +kernel
theorem dX5_loseStorage_8 : decode cX5_loseStorage 8 = .ok (.goto 4, 3) := by decide +kernel
theorem dX5_loseStorage_11 : decode cX5_loseStorage 11 = .ok (.iconst 0, 1) := by decide +kernel
theorem dX5_loseStorage_12 : decode cX5_loseStorage 12 = .ok (.invokestatic 87, 3) := by decide +kernel
theorem dX5_loseStorage_15 : decode cX5_loseStorage 15 = .ok (.aload_n 0, 1) := by decide +kernel
theorem dX5_loseStorage_16 : decode cX5_loseStorage 16 = .ok (.invokevirtual 98, 3) := by decide +kernel
theorem dX5_loseStorage_19 : decode cX5_loseStorage 19 = .ok (.istore_n 1, 1) := by decide +kernel
theorem dX5_loseStorage_20 : decode cX5_loseStorage 20 = .ok (.aload_n 0, 1) := by decide +kernel
theorem dX5_loseStorage_21 : decode cX5_loseStorage 21 = .ok (.invokevirtual 153, 3) := by decide +kernel
theorem dX5_loseStorage_24 : decode cX5_loseStorage 24 = .ok (.iload_n 1, 1) := by decide +kernel
theorem dX5_loseStorage_25 : decode cX5_loseStorage 25 = .ok (.ireturn, 1) := by decide +kernel
theorem dX5_takeElement_0 : decode cX5_takeElement 0 = .ok (.aload_n 0, 1) := by decide +kernel
theorem dX5_takeElement_1 : decode cX5_takeElement 1 = .ok (.iload_n 1, 1) := by decide +kernel
theorem dX5_takeElement_2 : decode cX5_takeElement 2 = .ok (.invokestatic 127, 3) := by decide +kernel
theorem dX5_takeElement_5 : decode cX5_takeElement 5 = .ok (.istore_n 2, 1) := by decide +kernel
theorem dX5_takeElement_6 : decode cX5_takeElement 6 = .ok (.aload_n 0, 1) := by decide +kernel
theorem dX5_takeElement_7 : decode cX5_takeElement 7 = .ok (.invokevirtual 49, 3) := by decide +kernel
theorem dX5_takeElement_10 : decode cX5_takeElement 10 = .ok (.getfield 156, 3) := by decide +kernel
theorem dX5_takeElement_13 : decode cX5_takeElement 13 = .ok (.iload_n 2, 1) := by decide +kernel
theorem dX5_takeElement_14 : decode cX5_takeElement 14 = .ok (.laload, 1) := by decide +kernel
theorem dX5_takeElement_15 : decode cX5_takeElement 15 = .ok (.lreturn, 1) := by decide +kernel
theorem dX5_putElement_0 : decode cX5_putElement 0 = .ok (.aload_n 0, 1) := by decide +kernel
theorem dX5_putElement_1 : decode cX5_putElement 1 = .ok (.iload_n 1, 1) := by decide +kernel
theorem dX5_putElement_2 : decode cX5_putElement 2 = .ok (.invokestatic 127, 3) := by decide +kernel
theorem dX5_putElement_5 : decode cX5_putElement 5 = .ok (.istore 4, 2) := by decide +kernel
theorem dX5_putElement_7 : decode cX5_putElement 7 = .ok (.aload_n 0, 1) := by decide +kernel
theorem dX5_putElement_8 : decode cX5_putElement 8 = .ok (.invokevirtual 49, 3) := by decide +kernel
theorem dX5_putElement_11 : decode cX5_putElement 11 = .ok (.astore 5, 2) := by decide +kernel
theorem dX5_putElement_13 : decode cX5_putElement 13 = .ok (.aload 5, 2) := by decide +kernel
theorem dX5_putElement_15 : decode cX5_putElement 15 = .ok (.getfield 156, 3) := by decide +kernel
theorem dX5_putElement_18 : decode cX5_putElement 18 = .ok (.iload 4, 2) := by decide +kernel
theorem dX5_putElement_20 : decode cX5_putElement 20 = .ok (.aload 5, 2) := by decide +kernel
theorem dX5_putElement_22 : decode cX5_putElement 22 = .ok (.getfield 160, 3) := by decide +kernel
theorem dX5_putElement_25 : decode cX5_putElement 25 = .ok (.lload_n 2, 1) := by decide +kernel
theorem dX5_putElement_26 : decode cX5_putElement 26 = .ok (.invokestatic 162, 3) := by decide +kernel
theorem dX5_putElement_29 : decode cX5_putElement 29 = .ok (.lastore, 1) := by decide +kernel
theorem dX5_putElement_30 : decode cX5_putElement 30 = .ok (.aload 5, 2) := by decide +kernel
theorem dX5_putElement_32 : decode cX5_putElement 32 = .ok (.getfield 156, 3) := by decide +kernel
theorem dX5_putElement_35 : decode cX5_putElement 35 = .ok (.iload 4, 2) := by decide +kernel
theorem dX5_putElement_37 : decode cX5_putElement 37 = .ok (.laload, 1) := by decide +kernel
theorem dX5_putElement_38 : decode cX5_putElement 38 = .ok (.lreturn, 1) := by decide +kernel
theorem dX5_placeOf_0 : decode cX5_placeOf 0 = .ok (.aload_n 0, 1) := by decide +kernel
theorem dX5_placeOf_1 : decode cX5_placeOf 1 = .ok (.invokevirtual 49, 3) := by decide +kernel
theorem dX5_placeOf_4 : decode cX5_placeOf 4 = .ok (.astore_n 2, 1) := by decide +kernel
theorem dX5_placeOf_5 : decode cX5_placeOf 5 = .ok (.aload_n 0, 1) := by decide +kernel
theorem dX5_placeOf_6 : decode cX5_placeOf 6 = .ok (.invokevirtual 63, 3) := by decide +kernel
theorem dX5_placeOf_9 : decode cX5_placeOf 9 = .ok (.iload_n 1, 1) := by decide +kernel
theorem dX5_placeOf_10 : decode cX5_placeOf 10 = .ok (.iadd, 1) := by decide +kernel
theorem dX5_placeOf_11 : decode cX5_placeOf 11 = .ok (.istore_n 3, 1) := by decide +kernel
theorem dX5_placeOf_12 : decode cX5_placeOf 12 = .ok (.aload_n 2, 1) := by decide +kernel
theorem dX5_placeOf_13 : decode cX5_placeOf 13 = .ok (.invokevirtual 83, 3) := by decide +kernel
theorem dX5_placeOf_16 : decode cX5_placeOf 16 = .ok (.ifCond .ne 7, 3) := by decide +kernel
theorem dX5_placeOf_19 : decode cX5_placeOf 19 = .ok (.iconst 1, 1) := by decide +kernel
theorem dX5_placeOf_20 : decode cX5_placeOf 20 = .ok (.goto 4, 3) := by decide +kernel
theorem dX5_placeOf_23 : decode cX5_placeOf 23 = .ok (.iconst 0, 1) := by decide +kernel
theorem dX5_placeOf_24 : decode cX5_placeOf 24 = .ok (.invokestatic 87, 3) := by decide +kernel
theorem dX5_placeOf_27 : decode cX5_placeOf 27 = .ok (.iload_n 3, 1) := by decide +kernel
theorem dX5_placeOf_28 : decode cX5_placeOf 28 = .ok (.aload_n 2, 1) := by decide +kernel
theorem dX5_placeOf_29 : decode cX5_placeOf 29 = .ok (.invokevirtual 98, 3) := by decide +kernel
theorem dX5_placeOf_32 : decode cX5_placeOf 32 = .ok (.invokestatic 116, 3) := by decide +kernel
theorem dX5_placeOf_35 : decode cX5_placeOf 35 = .ok (.iload_n 3, 1) := by decide +kernel
theorem dX5_placeOf_36 : decode cX5_placeOf 36 = .ok (.ireturn, 1) := by decide +kernel
theorem dX5_fitted_0 : decode cX5_fitted 0 = .ok (.iload_n 0, 1) := by decide +kernel
theorem dX5_fitted_1 : decode cX5_fitted 1 = .ok (.tableswitch 86 0 7 #[47, 59, 64, 69, 74, 86, 78, 82], 47) := by decide +kernel
theorem dX5_fitted_48 : decode cX5_fitted 48 = .ok (.lload_n 1, 1) := by decide +kernel
theorem dX5_fitted_49 : decode cX5_fitted 49 = .ok (.lconst 0, 1) := by decide +kernel
theorem dX5_fitted_50 : decode cX5_fitted 50 = .ok (.lcmp, 1) := by decide +kernel
theorem dX5_fitted_51 : decode cX5_fitted 51 = .ok (.ifCond .eq 7, 3) := by decide +kernel
theorem dX5_fitted_54 : decode cX5_fitted 54 = .ok (.lconst 1, 1) := by decide +kernel
theorem dX5_fitted_55 : decode cX5_fitted 55 = .ok (.goto 4, 3) := by decide +kernel
theorem dX5_fitted_58 : decode cX5_fitted 58 = .ok (.lconst 0, 1) := by decide +kernel
theorem dX5_fitted_59 : decode cX5_fitted 59 = .ok (.lreturn, 1) := by decide +kernel
theorem dX5_fitted_60 : decode cX5_fitted 60 = .ok (.lload_n 1, 1) := by decide +kernel
theorem dX5_fitted_61 : decode cX5_fitted 61 = .ok (.l2i, 1) := by decide +kernel
theorem dX5_fitted_62 : decode cX5_fitted 62 = .ok (.i2b, 1) := by decide +kernel
theorem dX5_fitted_63 : decode cX5_fitted 63 = .ok (.i2l, 1) := by decide +kernel
theorem dX5_fitted_64 : decode cX5_fitted 64 = .ok (.lreturn, 1) := by decide +kernel
theorem dX5_fitted_65 : decode cX5_fitted 65 = .ok (.lload_n 1, 1) := by decide +kernel
theorem dX5_fitted_66 : decode cX5_fitted 66 = .ok (.l2i, 1) := by decide +kernel
theorem dX5_fitted_67 : decode cX5_fitted 67 = .ok (.i2s, 1) := by decide +kernel
theorem dX5_fitted_68 : decode cX5_fitted 68 = .ok (.i2l, 1) := by decide +kernel
theorem dX5_fitted_69 : decode cX5_fitted 69 = .ok (.lreturn, 1) := by decide +kernel
theorem dX5_fitted_70 : decode cX5_fitted 70 = .ok (.lload_n 1, 1) := by decide +kernel
theorem dX5_fitted_71 : decode cX5_fitted 71 = .ok (.l2i, 1) := by decide +kernel
theorem dX5_fitted_72 : decode cX5_fitted 72 = .ok (.i2c, 1) := by decide +kernel
theorem dX5_fitted_73 : decode cX5_fitted 73 = .ok (.i2l, 1) := by decide +kernel
theorem dX5_fitted_74 : decode cX5_fitted 74 = .ok (.lreturn, 1) := by decide +kernel
theorem dX5_fitted_75 : decode cX5_fitted 75 = .ok (.lload_n 1, 1) := by decide +kernel
theorem dX5_fitted_76 : decode cX5_fitted 76 = .ok (.l2i, 1) := by decide +kernel
theorem dX5_fitted_77 : decode cX5_fitted 77 = .ok (.i2l, 1) := by decide +kernel
theorem dX5_fitted_78 : decode cX5_fitted 78 = .ok (.lreturn, 1) := by decide +kernel
theorem dX5_fitted_79 : decode cX5_fitted 79 = .ok (.lload_n 1, 1) := by decide +kernel
theorem dX5_fitted_80 : decode cX5_fitted 80 = .ok (.l2f, 1) := by decide +kernel
theorem dX5_fitted_81 : decode cX5_fitted 81 = .ok (.f2l, 1) := by decide +kernel
theorem dX5_fitted_82 : decode cX5_fitted 82 = .ok (.lreturn, 1) := by decide +kernel
theorem dX5_fitted_83 : decode cX5_fitted 83 = .ok (.lload_n 1, 1) := by decide +kernel
theorem dX5_fitted_84 : decode cX5_fitted 84 = .ok (.l2d, 1) := by decide +kernel
theorem dX5_fitted_85 : decode cX5_fitted 85 = .ok (.d2l, 1) := by decide +kernel
theorem dX5_fitted_86 : decode cX5_fitted 86 = .ok (.lreturn, 1) := by decide +kernel
theorem dX5_fitted_87 : decode cX5_fitted 87 = .ok (.lload_n 1, 1) := by decide +kernel
end
section
theorem dX5_fitted_88 : decode cX5_fitted 88 = .ok (.lreturn, 1) := by decide +kernel
theorem dX5_reckon_0 : decode cX5_reckon 0 = .ok (.iload_n 0, 1) := by decide +kernel
theorem dX5_reckon_1 : decode cX5_reckon 1 = .ok (.tableswitch 51 0 3 #[31, 35, 39, 43], 31) := by decide +kernel
theorem dX5_reckon_32 : decode cX5_reckon 32 = .ok (.lload_n 1, 1) := by decide +kernel
theorem dX5_reckon_33 : decode cX5_reckon 33 = .ok (.lload_n 3, 1) := by decide +kernel
theorem dX5_reckon_34 : decode cX5_reckon 34 = .ok (.ladd, 1) := by decide +kernel
theorem dX5_reckon_35 : decode cX5_reckon 35 = .ok (.lreturn, 1) := by decide +kernel
theorem dX5_reckon_36 : decode cX5_reckon 36 = .ok (.lload_n 1, 1) := by decide +kernel
theorem dX5_reckon_37 : decode cX5_reckon 37 = .ok (.lload_n 3, 1) := by decide +kernel
theorem dX5_reckon_38 : decode cX5_reckon 38 = .ok (.lsub, 1) := by decide +kernel
theorem dX5_reckon_39 : decode cX5_reckon 39 = .ok (.lreturn, 1) := by decide +kernel
theorem dX5_reckon_40 : decode cX5_reckon 40 = .ok (.lload_n 1, 1) := by decide +kernel
theorem dX5_reckon_41 : decode cX5_reckon 41 = .ok (.lload_n 3, 1) := by decide +kernel
theorem dX5_reckon_42 : decode cX5_reckon 42 = .ok (.lmul, 1) := by decide +kernel
theorem dX5_reckon_43 : decode cX5_reckon 43 = .ok (.lreturn, 1) := by decide +kernel
theorem dX5_reckon_44 : decode cX5_reckon 44 = .ok (.lload_n 3, 1) := by decide +kernel
theorem dX5_reckon_45 : decode cX5_reckon 45 = .ok (.invokestatic 123, 3) := by decide +kernel
theorem dX5_reckon_48 : decode cX5_reckon 48 = .ok (.lload_n 1, 1) := by decide +kernel
theorem dX5_reckon_49 : decode cX5_reckon 49 = .ok (.lload_n 3, 1) := by decide +kernel
theorem dX5_reckon_50 : decode cX5_reckon 50 = .ok (.ldiv, 1) := by decide +kernel
theorem dX5_reckon_51 : decode cX5_reckon 51 = .ok (.lreturn, 1) := by decide +kernel
theorem dX5_reckon_52 : decode cX5_reckon 52 = .ok (.lload_n 3, 1) := by decide +kernel
theorem dX5_reckon_53 : decode cX5_reckon 53 = .ok (.invokestatic 123, 3) := by decide +kernel
theorem dX5_reckon_56 : decode cX5_reckon 56 = .ok (.lload_n 1, 1) := by decide +kernel
theorem dX5_reckon_57 : decode cX5_reckon 57 = .ok (.lload_n 3, 1) := by decide +kernel
theorem dX5_reckon_58 : decode cX5_reckon 58 = .ok (.lrem, 1) := by decide +kernel
theorem dX5_reckon_59 : decode cX5_reckon 59 = .ok (.lreturn, 1) := by decide +kernel
theorem dX5_requireRegister_0 : decode cX5_requireRegister 0 = .ok (.iload_n 0, 1) := by decide +kernel
theorem dX5_requireRegister_1 : decode cX5_requireRegister 1 = .ok (.ifCond .lt 13, 3) := by decide +kernel
theorem dX5_requireRegister_4 : decode cX5_requireRegister 4 = .ok (.iload_n 0, 1) := by decide +kernel
theorem dX5_requireRegister_5 : decode cX5_requireRegister 5 = .ok (.bipush 8, 2) := by decide +kernel
theorem dX5_requireRegister_7 : decode cX5_requireRegister 7 = .ok (.if_icmp .ge 7, 3) := by decide +kernel
theorem dX5_requireRegister_10 : decode cX5_requireRegister 10 = .ok (.iconst 1, 1) := by decide +kernel
theorem dX5_requireRegister_11 : decode cX5_requireRegister 11 = .ok (.goto 4, 3) := by decide +kernel
theorem dX5_requireRegister_14 : decode cX5_requireRegister 14 = .ok (.iconst 0, 1) := by decide +kernel
theorem dX5_requireRegister_15 : decode cX5_requireRegister 15 = .ok (.invokestatic 23, 3) := by decide +kernel
theorem dX5_requireRegister_18 : decode cX5_requireRegister 18 = .ok (.return_, 1) := by decide +kernel
theorem dX5_requireArgument_0 : decode cX5_requireArgument 0 = .ok (.iload_n 0, 1) := by decide +kernel
theorem dX5_requireArgument_1 : decode cX5_requireArgument 1 = .ok (.ifCond .ne 11, 3) := by decide +kernel
theorem dX5_requireArgument_4 : decode cX5_requireArgument 4 = .ok (.new 166, 3) := by decide +kernel
theorem dX5_requireArgument_7 : decode cX5_requireArgument 7 = .ok (.dup, 1) := by decide +kernel
theorem dX5_requireArgument_8 : decode cX5_requireArgument 8 = .ok (.invokespecial 168, 3) := by decide +kernel
theorem dX5_requireArgument_11 : decode cX5_requireArgument 11 = .ok (.athrow, 1) := by decide +kernel
theorem dX5_requireArgument_12 : decode cX5_requireArgument 12 = .ok (.return_, 1) := by decide +kernel
theorem dX5_requireSupported_0 : decode cX5_requireSupported 0 = .ok (.iload_n 0, 1) := by decide +kernel
theorem dX5_requireSupported_1 : decode cX5_requireSupported 1 = .ok (.ifCond .ne 11, 3) := by decide +kernel
theorem dX5_requireSupported_4 : decode cX5_requireSupported 4 = .ok (.new 169, 3) := by decide +kernel
theorem dX5_requireSupported_7 : decode cX5_requireSupported 7 = .ok (.dup, 1) := by decide +kernel
theorem dX5_requireSupported_8 : decode cX5_requireSupported 8 = .ok (.invokespecial 171, 3) := by decide +kernel
theorem dX5_requireSupported_11 : decode cX5_requireSupported 11 = .ok (.athrow, 1) := by decide +kernel
theorem dX5_requireSupported_12 : decode cX5_requireSupported 12 = .ok (.return_, 1) := by decide +kernel
theorem dX5_requireDivisor_0 : decode cX5_requireDivisor 0 = .ok (.lload_n 0, 1) := by decide +kernel
theorem dX5_requireDivisor_1 : decode cX5_requireDivisor 1 = .ok (.lconst 0, 1) := by decide +kernel
theorem dX5_requireDivisor_2 : decode cX5_requireDivisor 2 = .ok (.lcmp, 1) := by decide +kernel
theorem dX5_requireDivisor_3 : decode cX5_requireDivisor 3 = .ok (.ifCond .ne 11, 3) := by decide +kernel
theorem dX5_requireDivisor_6 : decode cX5_requireDivisor 6 = .ok (.new 172, 3) := by decide +kernel
theorem dX5_requireDivisor_9 : decode cX5_requireDivisor 9 = .ok (.dup, 1) := by decide +kernel
theorem dX5_requireDivisor_10 : decode cX5_requireDivisor 10 = .ok (.invokespecial 174, 3) := by decide +kernel
theorem dX5_requireDivisor_13 : decode cX5_requireDivisor 13 = .ok (.athrow, 1) := by decide +kernel
theorem dX5_requireDivisor_14 : decode cX5_requireDivisor 14 = .ok (.return_, 1) := by decide +kernel
theorem dX5_requireCell_0 : decode cX5_requireCell 0 = .ok (.aload_n 0, 1) := by decide +kernel
theorem dX5_requireCell_1 : decode cX5_requireCell 1 = .ok (.ifnull 7, 3) := by decide +kernel
theorem dX5_requireCell_4 : decode cX5_requireCell 4 = .ok (.iconst 1, 1) := by decide +kernel
theorem dX5_requireCell_5 : decode cX5_requireCell 5 = .ok (.goto 4, 3) := by decide +kernel
theorem dX5_requireCell_8 : decode cX5_requireCell 8 = .ok (.iconst 0, 1) := by decide +kernel
theorem dX5_requireCell_9 : decode cX5_requireCell 9 = .ok (.invokestatic 87, 3) := by decide +kernel
theorem dX5_requireCell_12 : decode cX5_requireCell 12 = .ok (.iload_n 1, 1) := by decide +kernel
theorem dX5_requireCell_13 : decode cX5_requireCell 13 = .ok (.aload_n 0, 1) := by decide +kernel
theorem dX5_requireCell_14 : decode cX5_requireCell 14 = .ok (.arraylength, 1) := by decide +kernel
theorem dX5_requireCell_15 : decode cX5_requireCell 15 = .ok (.invokestatic 116, 3) := by decide +kernel
theorem dX5_requireCell_18 : decode cX5_requireCell 18 = .ok (.return_, 1) := by decide +kernel
theorem dX5_requirePresent_0 : decode cX5_requirePresent 0 = .ok (.iload_n 0, 1) := by decide +kernel
theorem dX5_requirePresent_1 : decode cX5_requirePresent 1 = .ok (.ifCond .ne 8, 3) := by decide +kernel
theorem dX5_requirePresent_4 : decode cX5_requirePresent 4 = .ok (.aconst_null, 1) := by decide +kernel
theorem dX5_requirePresent_5 : decode cX5_requirePresent 5 = .ok (.astore_n 1, 1) := by decide +kernel
theorem dX5_requirePresent_6 : decode cX5_requirePresent 6 = .ok (.aload_n 1, 1) := by decide +kernel
theorem dX5_requirePresent_7 : decode cX5_requirePresent 7 = .ok (.arraylength, 1) := by decide +kernel
theorem dX5_requirePresent_8 : decode cX5_requirePresent 8 = .ok (.istore_n 2, 1) := by decide +kernel
theorem dX5_requirePresent_9 : decode cX5_requirePresent 9 = .ok (.return_, 1) := by decide +kernel
theorem dX5_requireIndex_0 : decode cX5_requireIndex 0 = .ok (.iload_n 0, 1) := by decide +kernel
theorem dX5_requireIndex_1 : decode cX5_requireIndex 1 = .ok (.ifCond .lt 8, 3) := by decide +kernel
theorem dX5_requireIndex_4 : decode cX5_requireIndex 4 = .ok (.iload_n 0, 1) := by decide +kernel
theorem dX5_requireIndex_5 : decode cX5_requireIndex 5 = .ok (.iload_n 1, 1) := by decide +kernel
theorem dX5_requireIndex_6 : decode cX5_requireIndex 6 = .ok (.if_icmp .lt 9, 3) := by decide +kernel
theorem dX5_requireIndex_9 : decode cX5_requireIndex 9 = .ok (.getstatic 175, 3) := by decide +kernel
theorem dX5_requireIndex_12 : decode cX5_requireIndex 12 = .ok (.iload_n 0, 1) := by decide +kernel
theorem dX5_requireIndex_13 : decode cX5_requireIndex 13 = .ok (.iaload, 1) := by decide +kernel
theorem dX5_requireIndex_14 : decode cX5_requireIndex 14 = .ok (.istore_n 2, 1) := by decide +kernel
theorem dX5_requireIndex_15 : decode cX5_requireIndex 15 = .ok (.return_, 1) := by decide +kernel
theorem dX5_requireSize_0 : decode cX5_requireSize 0 = .ok (.iload_n 0, 1) := by decide +kernel
theorem dX5_requireSize_1 : decode cX5_requireSize 1 = .ok (.ifCond .ge 7, 3) := by decide +kernel
theorem dX5_requireSize_4 : decode cX5_requireSize 4 = .ok (.iload_n 0, 1) := by decide +kernel
theorem dX5_requireSize_5 : decode cX5_requireSize 5 = .ok (.newarray .int, 2) := by decide +kernel
theorem dX5_requireSize_7 : decode cX5_requireSize 7 = .ok (.astore_n 1, 1) := by decide +kernel
theorem dX5_requireSize_8 : decode cX5_requireSize 8 = .ok (.return_, 1) := by decide +kernel
theorem dX6_init_0 : decode cX6_init 0 = .ok (.aload_n 0, 1) := by decide +kernel
theorem dX6_init_1 : decode cX6_init 1 = .ok (.invokespecial 1, 3) := by decide +kernel
theorem dX6_init_4 : decode cX6_init 4 = .ok (.aload_n 0, 1) := by decide +kernel
theorem dX6_init_5 : decode cX6_init 5 = .ok (.bipush 8, 2) := by decide +kernel
theorem dX6_init_7 : decode cX6_init 7 = .ok (.newarray .int, 2) := by decide +kernel
theorem dX6_init_9 : decode cX6_init 9 = .ok (.putfield 7, 3) := by decide +kernel
theorem dX6_init_12 : decode cX6_init 12 = .ok (.aload_n 0, 1) := by decide +kernel
theorem dX6_init_13 : decode cX6_init 13 = .ok (.sipush 520, 3) := by decide +kernel
theorem dX6_init_16 : decode cX6_init 16 = .ok (.newarray .int, 2) := by decide +kernel
theorem dX6_init_18 : decode cX6_init 18 = .ok (.putfield 13, 3) := by decide +kernel
theorem dX6_init_21 : decode cX6_init 21 = .ok (.aload_n 0, 1) := by decide +kernel
theorem dX6_init_22 : decode cX6_init 22 = .ok (.sipush 520, 3) := by decide +kernel
theorem dX6_init_25 : decode cX6_init 25 = .ok (.newarray .int, 2) := by decide +kernel
theorem dX6_init_27 : decode cX6_init 27 = .ok (.putfield 16, 3) := by decide +kernel
theorem dX6_init_30 : decode cX6_init 30 = .ok (.aload_n 0, 1) := by decide +kernel
theorem dX6_init_31 : decode cX6_init 31 = .ok (.sipush 520, 3) := by decide +kernel
theorem dX6_init_34 : decode cX6_init 34 = .ok (.newarray .int, 2) := by decide +kernel
theorem dX6_init_36 : decode cX6_init 36 = .ok (.putfield 19, 3) := by decide +kernel
theorem dX6_init_39 : decode cX6_init 39 = .ok (.aload_n 0, 1) := by decide +kernel
theorem dX6_init_40 : decode cX6_init 40 = .ok (.sipush 520, 3) := by decide +kernel
theorem dX6_init_43 : decode cX6_init 43 = .ok (.newarray .int, 2) := by decide +kernel
theorem dX6_init_45 : decode cX6_init 45 = .ok (.putfield 22, 3) := by decide +kernel
theorem dX6_init_48 : decode cX6_init 48 = .ok (.aload_n 0, 1) := by decide +kernel
theorem dX6_init_49 : decode cX6_init 49 = .ok (.sipush 520, 3) := by decide +kernel
theorem dX6_init_52 : decode cX6_init 52 = .ok (.newarray .int, 2) := by decide +kernel
theorem dX6_init_54 : decode cX6_init 54 = .ok (.putfield 25, 3) := by decide +kernel
theorem dX6_init_57 : decode cX6_init 57 = .ok (.aload_n 0, 1) := by decide +kernel
theorem dX6_init_58 : decode cX6_init 58 = .ok (.sipush 12480, 3) := by decide +kernel
theorem dX6_init_61 : decode cX6_init 61 = .ok (.newarray .long, 2) := by decide +kernel
theorem dX6_init_63 : decode cX6_init 63 = .ok (.putfield 28, 3) := by decide +kernel
theorem dX6_init_66 : decode cX6_init 66 = .ok (.aload_n 0, 1) := by decide +kernel
theorem dX6_init_67 : decode cX6_init 67 = .ok (.sipush 3120, 3) := by decide +kernel
theorem dX6_init_70 : decode cX6_init 70 = .ok (.newarray .boolean, 2) := by decide +kernel
theorem dX6_init_72 : decode cX6_init 72 = .ok (.putfield 32, 3) := by decide +kernel
theorem dX6_init_75 : decode cX6_init 75 = .ok (.iconst 0, 1) := by decide +kernel
theorem dX6_init_76 : decode cX6_init 76 = .ok (.istore_n 1, 1) := by decide +kernel
theorem dX6_init_77 : decode cX6_init 77 = .ok (.iload_n 1, 1) := by decide +kernel
theorem dX6_init_78 : decode cX6_init 78 = .ok (.bipush 8, 2) := by decide +kernel
theorem dX6_init_80 : decode cX6_init 80 = .ok (.if_icmp .ge 16, 3) := by decide +kernel
theorem dX6_init_83 : decode cX6_init 83 = .ok (.aload_n 0, 1) := by decide +kernel
theorem dX6_init_84 : decode cX6_init 84 = .ok (.getfield 7, 3) := by decide +kernel
theorem dX6_init_87 : decode cX6_init 87 = .ok (.iload_n 1, 1) := by decide +kernel
theorem dX6_init_88 : decode cX6_init 88 = .ok (.iconst (-1), 1) := by decide +kernel
theorem dX6_init_89 : decode cX6_init 89 = .ok (.iastore, 1) := by decide +kernel
theorem dX6_init_90 : decode cX6_init 90 = .ok (.iinc 1 1, 3) := by decide +kernel
theorem dX6_init_93 : decode cX6_init 93 = .ok (.goto (-16), 3) := by decide +kernel
theorem dX6_init_96 : decode cX6_init 96 = .ok (.return_, 1) := by decide +kernel
theorem dX6_thrown_0 : decode cX6_thrown 0 = .ok (.aload_n 0, 1) := by decide +kernel
theorem dX6_thrown_1 : decode cX6_thrown 1 = .ok (.getfield 36, 3) := by decide +kernel
theorem dX6_thrown_4 : decode cX6_thrown 4 = .ok (.ireturn, 1) := by decide +kernel
theorem dX6_in_0 : decode cX6_in 0 = .ok (.iload_n 0, 1) := by decide +kernel
theorem dX6_in_1 : decode cX6_in 1 = .ok (.iload_n 1, 1) := by decide +kernel
theorem dX6_in_2 : decode cX6_in 2 = .ok (.if_icmp .lt 12, 3) := by decide +kernel
theorem dX6_in_5 : decode cX6_in 5 = .ok (.iload_n 0, 1) := by decide +kernel
theorem dX6_in_6 : decode cX6_in 6 = .ok (.iload_n 2, 1) := by decide +kernel
theorem dX6_in_7 : decode cX6_in 7 = .ok (.if_icmp .gt 7, 3) := by decide +kernel
theorem dX6_in_10 : decode cX6_in 10 = .ok (.iconst 1, 1) := by decide +kernel
theorem dX6_in_11 : decode cX6_in 11 = .ok (.goto 4, 3) := by decide +kernel
theorem dX6_in_14 : decode cX6_in 14 = .ok (.iconst 0, 1) := by decide +kernel
theorem dX6_in_15 : decode cX6_in 15 = .ok (.ireturn, 1) := by decide +kernel
theorem dX6_good_0 : decode cX6_good 0 = .ok (.aload_n 0, 1) := by decide +kernel
theorem dX6_good_1 : decode cX6_good 1 = .ok (.iload_n 1, 1) := by decide +kernel
theorem dX6_good_2 : decode cX6_good 2 = .ok (.ifCond .eq 7, 3) := by decide +kernel
theorem dX6_good_5 : decode cX6_good 5 = .ok (.iconst 0, 1) := by decide +kernel
theorem dX6_good_6 : decode cX6_good 6 = .ok (.goto 4, 3) := by decide +kernel
theorem dX6_good_9 : decode cX6_good 9 = .ok (.iload_n 2, 1) := by decide +kernel
theorem dX6_good_10 : decode cX6_good 10 = .ok (.putfield 36, 3) := by decide +kernel
theorem dX6_good_13 : decode cX6_good 13 = .ok (.iload_n 1, 1) := by decide +kernel
theorem dX6_good_14 : decode cX6_good 14 = .ok (.ireturn, 1) := by decide +kernel
theorem dX6_known_0 : decode cX6_known 0 = .ok (.aload_n 0, 1) := by decide +kernel
theorem dX6_known_1 : decode cX6_known 1 = .ok (.iload_n 1, 1) := by decide +kernel
theorem dX6_known_2 : decode cX6_known 2 = .ok (.iconst 0, 1) := by decide +kernel
theorem dX6_known_3 : decode cX6_known 3 = .ok (.bipush 7, 2) := by decide +kernel
theorem dX6_known_5 : decode cX6_known 5 = .ok (.invokestatic 40, 3) := by decide +kernel
theorem dX6_known_8 : decode cX6_known 8 = .ok (.ifCond .eq 17, 3) := by decide +kernel
theorem dX6_known_11 : decode cX6_known 11 = .ok (.iload_n 2, 1) := by decide +kernel
theorem dX6_known_12 : decode cX6_known 12 = .ok (.iconst 0, 1) := by decide +kernel
theorem dX6_known_13 : decode cX6_known 13 = .ok (.bipush 7, 2) := by decide +kernel
theorem dX6_known_15 : decode cX6_known 15 = .ok (.invokestatic 40, 3) := by decide +kernel
theorem dX6_known_18 : decode cX6_known 18 = .ok (.ifCond .eq 7, 3) := by decide +kernel
theorem dX6_known_21 : decode cX6_known 21 = .ok (.iconst 1, 1) := by decide +kernel
theorem dX6_known_22 : decode cX6_known 22 = .ok (.goto 4, 3) := by decide +kernel
theorem dX6_known_25 : decode cX6_known 25 = .ok (.iconst 0, 1) := by decide +kernel
theorem dX6_known_26 : decode cX6_known 26 = .ok (.iconst 1, 1) := by decide +kernel
theorem dX6_known_27 : decode cX6_known 27 = .ok (.invokevirtual 44, 3) := by decide +kernel
theorem dX6_known_30 : decode cX6_known 30 = .ok (.ireturn, 1) := by decide +kernel
theorem dX6_fresh_0 : decode cX6_fresh 0 = .ok (.aload_n 0, 1) := by decide +kernel
theorem dX6_fresh_1 : decode cX6_fresh 1 = .ok (.getfield 48, 3) := by decide +kernel
theorem dX6_fresh_4 : decode cX6_fresh 4 = .ok (.istore 4, 2) := by decide +kernel
theorem dX6_fresh_6 : decode cX6_fresh 6 = .ok (.aload_n 0, 1) := by decide +kernel
theorem dX6_fresh_7 : decode cX6_fresh 7 = .ok (.dup, 1) := by decide +kernel
theorem dX6_fresh_8 : decode cX6_fresh 8 = .ok (.getfield 48, 3) := by decide +kernel
theorem dX6_fresh_11 : decode cX6_fresh 11 = .ok (.iconst 1, 1) := by decide +kernel
theorem dX6_fresh_12 : decode cX6_fresh 12 = .ok (.iadd, 1) := by decide +kernel
theorem dX6_fresh_13 : decode cX6_fresh 13 = .ok (.putfield 48, 3) := by decide +kernel
theorem dX6_fresh_16 : decode cX6_fresh 16 = .ok (.aload_n 0, 1) := by decide +kernel
theorem dX6_fresh_17 : decode cX6_fresh 17 = .ok (.getfield 13, 3) := by decide +kernel
theorem dX6_fresh_20 : decode cX6_fresh 20 = .ok (.iload 4, 2) := by decide +kernel
theorem dX6_fresh_22 : decode cX6_fresh 22 = .ok (.iload_n 2, 1) := by decide +kernel
theorem dX6_fresh_23 : decode cX6_fresh 23 = .ok (.iastore, 1) := by decide +kernel
theorem dX6_fresh_24 : decode cX6_fresh 24 = .ok (.aload_n 0, 1) := by decide +kernel
theorem dX6_fresh_25 : decode cX6_fresh 25 = .ok (.getfield 16, 3) := by decide +kernel
theorem dX6_fresh_28 : decode cX6_fresh 28 = .ok (.iload 4, 2) := by decide +kernel
theorem dX6_fresh_30 : decode cX6_fresh 30 = .ok (.iload_n 3, 1) := by decide +kernel
theorem dX6_fresh_31 : decode cX6_fresh 31 = .ok (.iastore, 1) := by decide +kernel
theorem dX6_fresh_32 : decode cX6_fresh 32 = .ok (.iconst 0, 1) := by decide +kernel
theorem dX6_fresh_33 : decode cX6_fresh 33 = .ok (.istore 5, 2) := by decide +kernel
theorem dX6_fresh_35 : decode cX6_fresh 35 = .ok (.iload 5, 2) := by decide +kernel
theorem dX6_fresh_37 : decode cX6_fresh 37 = .ok (.bipush 24, 2) := by decide +kernel
theorem dX6_fresh_39 : decode cX6_fresh 39 = .ok (.if_icmp .ge 47, 3) := by decide +kernel
theorem dX6_fresh_42 : decode cX6_fresh 42 = .ok (.aload_n 0, 1) := by decide +kernel
theorem dX6_fresh_43 : decode cX6_fresh 43 = .ok (.getfield 28, 3) := by decide +kernel
theorem dX6_fresh_46 : decode cX6_fresh 46 = .ok (.bipush 24, 2) := by decide +kernel
theorem dX6_fresh_48 : decode cX6_fresh 48 = .ok (.iload 4, 2) := by decide +kernel
theorem dX6_fresh_50 : decode cX6_fresh 50 = .ok (.imul, 1) := by decide +kernel
theorem dX6_fresh_51 : decode cX6_fresh 51 = .ok (.iload 5, 2) := by decide +kernel
theorem dX6_fresh_53 : decode cX6_fresh 53 = .ok (.iadd, 1) := by decide +kernel
theorem dX6_fresh_54 : decode cX6_fresh 54 = .ok (.iload_n 2, 1) := by decide +kernel
theorem dX6_fresh_55 : decode cX6_fresh 55 = .ok (.bipush 8, 2) := by decide +kernel
theorem dX6_fresh_57 : decode cX6_fresh 57 = .ok (.if_icmp .eq 15, 3) := by decide +kernel
theorem dX6_fresh_60 : decode cX6_fresh 60 = .ok (.iload_n 2, 1) := by decide +kernel
theorem dX6_fresh_61 : decode cX6_fresh 61 = .ok (.bipush 10, 2) := by decide +kernel
theorem dX6_fresh_63 : decode cX6_fresh 63 = .ok (.if_icmp .ne 15, 3) := by decide +kernel
theorem dX6_fresh_66 : decode cX6_fresh 66 = .ok (.iload 5, 2) := by decide +kernel
theorem dX6_fresh_68 : decode cX6_fresh 68 = .ok (.iconst 1, 1) := by decide +kernel
theorem dX6_fresh_69 : decode cX6_fresh 69 = .ok (.if_icmp .ne 9, 3) := by decide +kernel
theorem dX6_fresh_72 : decode cX6_fresh 72 = .ok (.ldc2_w 51, 3) := by decide +kernel
theorem dX6_fresh_75 : decode cX6_fresh 75 = .ok (.goto 4, 3) := by decide +kernel
theorem dX6_fresh_78 : decode cX6_fresh 78 = .ok (.lconst 0, 1) := by decide +kernel
theorem dX6_fresh_79 : decode cX6_fresh 79 = .ok (.lastore, 1) := by decide +kernel
theorem dX6_fresh_80 : decode cX6_fresh 80 = .ok (.iinc 5 1, 3) := by decide +kernel
theorem dX6_fresh_83 : decode cX6_fresh 83 = .ok (.goto (-48), 3) := by decide +kernel
theorem dX6_fresh_86 : decode cX6_fresh 86 = .ok (.iconst 0, 1) := by decide +kernel
theorem dX6_fresh_87 : decode cX6_fresh 87 = .ok (.istore 5, 2) := by decide +kernel
theorem dX6_fresh_89 : decode cX6_fresh 89 = .ok (.iload 5, 2) := by decide +kernel
theorem dX6_fresh_91 : decode cX6_fresh 91 = .ok (.bipush 6, 2) := by decide +kernel
theorem dX6_fresh_93 : decode cX6_fresh 93 = .ok (.if_icmp .ge 23, 3) := by decide +kernel
theorem dX6_fresh_96 : decode cX6_fresh 96 = .ok (.aload_n 0, 1) := by decide +kernel
theorem dX6_fresh_97 : decode cX6_fresh 97 = .ok (.getfield 32, 3) := by decide +kernel
theorem dX6_fresh_100 : decode cX6_fresh 100 = .ok (.bipush 6, 2) := by decide +kernel
theorem dX6_fresh_102 : decode cX6_fresh 102 = .ok (.iload 4, 2) := by decide +kernel
theorem dX6_fresh_104 : decode cX6_fresh 104 = .ok (.imul, 1) := by decide +kernel
theorem dX6_fresh_105 : decode cX6_fresh 105 = .ok (.iload 5, 2) := by decide +kernel
theorem dX6_fresh_107 : decode cX6_fresh 107 = .ok (.iadd, 1) := by decide +kernel
theorem dX6_fresh_108 : decode cX6_fresh 108 = .ok (.iconst 0, 1) := by decide +kernel
theorem dX6_fresh_109 : decode cX6_fresh 109 = .ok (.bastore, 1) := by decide +kernel
theorem dX6_fresh_110 : decode cX6_fresh 110 = .ok (.iinc 5 1, 3) := by decide +kernel
theorem dX6_fresh_113 : decode cX6_fresh 113 = .ok (.goto (-24), 3) := by decide +kernel
theorem dX6_fresh_116 : decode cX6_fresh 116 = .ok (.aload_n 0, 1) := by decide +kernel
theorem dX6_fresh_117 : decode cX6_fresh 117 = .ok (.getfield 7, 3) := by decide +kernel
theorem dX6_fresh_120 : decode cX6_fresh 120 = .ok (.iload_n 1, 1) := by decide +kernel
theorem dX6_fresh_121 : decode cX6_fresh 121 = .ok (.iload 4, 2) := by decide +kernel
theorem dX6_fresh_123 : decode cX6_fresh 123 = .ok (.iastore, 1) := by decide +kernel
theorem dX6_fresh_124 : decode cX6_fresh 124 = .ok (.aload_n 0, 1) := by decide +kernel
theorem dX6_fresh_125 : decode cX6_fresh 125 = .ok (.getfield 48, 3) := by decide +kernel
theorem dX6_fresh_128 : decode cX6_fresh 128 = .ok (.ireturn, 1) := by decide +kernel
theorem dX6_make_0 : decode cX6_make 0 = .ok (.aload_n 0, 1) := by decide +kernel
theorem dX6_make_1 : decode cX6_make 1 = .ok (.iload_n 1, 1) := by decide +kernel
theorem dX6_make_2 : decode cX6_make 2 = .ok (.iconst 0, 1) := by decide +kernel
theorem dX6_make_3 : decode cX6_make 3 = .ok (.bipush 7, 2) := by decide +kernel
theorem dX6_make_5 : decode cX6_make 5 = .ok (.invokestatic 40, 3) := by decide +kernel
theorem dX6_make_8 : decode cX6_make 8 = .ok (.ifCond .eq 23, 3) := by decide +kernel
theorem dX6_make_11 : decode cX6_make 11 = .ok (.iload_n 2, 1) := by decide +kernel
theorem dX6_make_12 : decode cX6_make 12 = .ok (.iconst 0, 1) := by decide +kernel
theorem dX6_make_13 : decode cX6_make 13 = .ok (.bipush 8, 2) := by decide +kernel
theorem dX6_make_15 : decode cX6_make 15 = .ok (.invokestatic 40, 3) := by decide +kernel
theorem dX6_make_18 : decode cX6_make 18 = .ok (.ifCond .eq 13, 3) := by decide +kernel
theorem dX6_make_21 : decode cX6_make 21 = .ok (.iload_n 3, 1) := by decide +kernel
theorem dX6_make_22 : decode cX6_make 22 = .ok (.bipush 24, 2) := by decide +kernel
theorem dX6_make_24 : decode cX6_make 24 = .ok (.if_icmp .gt 7, 3) := by decide +kernel
theorem dX6_make_27 : decode cX6_make 27 = .ok (.iconst 1, 1) := by decide +kernel
theorem dX6_make_28 : decode cX6_make 28 = .ok (.goto 4, 3) := by decide +kernel
theorem dX6_make_31 : decode cX6_make 31 = .ok (.iconst 0, 1) := by decide +kernel
theorem dX6_make_32 : decode cX6_make 32 = .ok (.iconst 1, 1) := by decide +kernel
theorem dX6_make_33 : decode cX6_make 33 = .ok (.invokevirtual 44, 3) := by decide +kernel
theorem dX6_make_36 : decode cX6_make 36 = .ok (.ifCond .eq 20, 3) := by decide +kernel
theorem dX6_make_39 : decode cX6_make 39 = .ok (.aload_n 0, 1) := by decide +kernel
theorem dX6_make_40 : decode cX6_make 40 = .ok (.iload_n 3, 1) := by decide +kernel
theorem dX6_make_41 : decode cX6_make 41 = .ok (.ifCond .lt 7, 3) := by decide +kernel
theorem dX6_make_44 : decode cX6_make 44 = .ok (.iconst 1, 1) := by decide +kernel
theorem dX6_make_45 : decode cX6_make 45 = .ok (.goto 4, 3) := by decide +kernel
theorem dX6_make_48 : decode cX6_make 48 = .ok (.iconst 0, 1) := by decide +kernel
theorem dX6_make_49 : decode cX6_make 49 = .ok (.iconst 2, 1) := by decide +kernel
theorem dX6_make_50 : decode cX6_make 50 = .ok (.invokevirtual 44, 3) := by decide +kernel
theorem dX6_make_53 : decode cX6_make 53 = .ok (.ifCond .ne 5, 3) := by decide +kernel
theorem dX6_make_56 : decode cX6_make 56 = .ok (.iconst 0, 1) := by decide +kernel
theorem dX6_make_57 : decode cX6_make 57 = .ok (.ireturn, 1) := by decide +kernel
theorem dX6_make_58 : decode cX6_make 58 = .ok (.aload_n 0, 1) := by decide +kernel
theorem dX6_make_59 : decode cX6_make 59 = .ok (.iload_n 1, 1) := by decide +kernel
theorem dX6_make_60 : decode cX6_make 60 = .ok (.iload_n 2, 1) := by decide +kernel
theorem dX6_make_61 : decode cX6_make 61 = .ok (.iload_n 3, 1) := by decide +kernel
theorem dX6_make_62 : decode cX6_make 62 = .ok (.invokevirtual 53, 3) := by decide +kernel
theorem dX6_make_65 : decode cX6_make 65 = .ok (.ireturn, 1) := by decide +kernel
theorem dX6_grid_0 : decode cX6_grid 0 = .ok (.aload_n 0, 1) := by decide +kernel
theorem dX6_grid_1 : decode cX6_grid 1 = .ok (.iload_n 1, 1) := by decide +kernel
theorem dX6_grid_2 : decode cX6_grid 2 = .ok (.iconst 0, 1) := by decide +kernel
theorem dX6_grid_3 : decode cX6_grid 3 = .ok (.bipush 7, 2) := by decide +kernel
theorem dX6_grid_5 : decode cX6_grid 5 = .ok (.invokestatic 40, 3) := by decide +kernel
theorem dX6_grid_8 : decode cX6_grid 8 = .ok (.ifCond .eq 18, 3) := by decide +kernel
theorem dX6_grid_11 : decode cX6_grid 11 = .ok (.iload_n 2, 1) := by decide +kernel
theorem dX6_grid_12 : decode cX6_grid 12 = .ok (.bipush 6, 2) := by decide +kernel
theorem dX6_grid_14 : decode cX6_grid 14 = .ok (.if_icmp .gt 12, 3) := by decide +kernel
theorem dX6_grid_17 : decode cX6_grid 17 = .ok (.iload_n 3, 1) := by decide +kernel
theorem dX6_grid_18 : decode cX6_grid 18 = .ok (.iconst 4, 1) := by decide +kernel
theorem dX6_grid_19 : decode cX6_grid 19 = .ok (.if_icmp .gt 7, 3) := by decide +kernel
theorem dX6_grid_22 : decode cX6_grid 22 = .ok (.iconst 1, 1) := by decide +kernel
theorem dX6_grid_23 : decode cX6_grid 23 = .ok (.goto 4, 3) := by decide +kernel
theorem dX6_grid_26 : decode cX6_grid 26 = .ok (.iconst 0, 1) := by decide +kernel
theorem dX6_grid_27 : decode cX6_grid 27 = .ok (.iconst 1, 1) := by decide +kernel
theorem dX6_grid_28 : decode cX6_grid 28 = .ok (.invokevirtual 44, 3) := by decide +kernel
theorem dX6_grid_31 : decode cX6_grid 31 = .ok (.ifCond .eq 24, 3) := by decide +kernel
theorem dX6_grid_34 : decode cX6_grid 34 = .ok (.aload_n 0, 1) := by decide +kernel
theorem dX6_grid_35 : decode cX6_grid 35 = .ok (.iload_n 2, 1) := by decide +kernel
theorem dX6_grid_36 : decode cX6_grid 36 = .ok (.ifCond .lt 11, 3) := by decide +kernel
theorem dX6_grid_39 : decode cX6_grid 39 = .ok (.iload_n 3, 1) := by decide +kernel
theorem dX6_grid_40 : decode cX6_grid 40 = .ok (.ifCond .lt 7, 3) := by decide +kernel
theorem dX6_grid_43 : decode cX6_grid 43 = .ok (.iconst 1, 1) := by decide +kernel
theorem dX6_grid_44 : decode cX6_grid 44 = .ok (.goto 4, 3) := by decide +kernel
theorem dX6_grid_47 : decode cX6_grid 47 = .ok (.iconst 0, 1) := by decide +kernel
theorem dX6_grid_48 : decode cX6_grid 48 = .ok (.iconst 2, 1) := by decide +kernel
theorem dX6_grid_49 : decode cX6_grid 49 = .ok (.invokevirtual 44, 3) := by decide +kernel
theorem dX6_grid_52 : decode cX6_grid 52 = .ok (.ifCond .ne 5, 3) := by decide +kernel
theorem dX6_grid_55 : decode cX6_grid 55 = .ok (.iconst 0, 1) := by decide +kernel
theorem dX6_grid_56 : decode cX6_grid 56 = .ok (.ireturn, 1) := by decide +kernel
theorem dX6_grid_57 : decode cX6_grid 57 = .ok (.aload_n 0, 1) := by decide +kernel
theorem dX6_grid_58 : decode cX6_grid 58 = .ok (.iload_n 1, 1) := by decide +kernel
theorem dX6_grid_59 : decode cX6_grid 59 = .ok (.bipush 9, 2) := by decide +kernel
theorem dX6_grid_61 : decode cX6_grid 61 = .ok (.iload_n 2, 1) := by decide +kernel
theorem dX6_grid_62 : decode cX6_grid 62 = .ok (.invokevirtual 53, 3) := by decide +kernel
theorem dX6_grid_65 : decode cX6_grid 65 = .ok (.istore 4, 2) := by decide +kernel
theorem dX6_grid_67 : decode cX6_grid 67 = .ok (.aload_n 0, 1) := by decide +kernel
theorem dX6_grid_68 : decode cX6_grid 68 = .ok (.getfield 19, 3) := by decide +kernel
theorem dX6_grid_71 : decode cX6_grid 71 = .ok (.iload 4, 2) := by decide +kernel
theorem dX6_grid_73 : decode cX6_grid 73 = .ok (.iconst 1, 1) := by decide +kernel
theorem dX6_grid_74 : decode cX6_grid 74 = .ok (.isub, 1) := by decide +kernel
theorem dX6_grid_75 : decode cX6_grid 75 = .ok (.iload_n 3, 1) := by decide +kernel
theorem dX6_grid_76 : decode cX6_grid 76 = .ok (.iastore, 1) := by decide +kernel
theorem dX6_grid_77 : decode cX6_grid 77 = .ok (.iload 4, 2) := by decide +kernel
theorem dX6_grid_79 : decode cX6_grid 79 = .ok (.ireturn, 1) := by decide +kernel
theorem dX6_record_0 : decode cX6_record 0 = .ok (.aload_n 0, 1) := by decide +kernel
theorem dX6_record_1 : decode cX6_record 1 = .ok (.iload_n 1, 1) := by decide +kernel
theorem dX6_record_2 : decode cX6_record 2 = .ok (.iconst 0, 1) := by decide +kernel
theorem dX6_record_3 : decode cX6_record 3 = .ok (.bipush 7, 2) := by decide +kernel
theorem dX6_record_5 : decode cX6_record 5 = .ok (.invokestatic 40, 3) := by decide +kernel
theorem dX6_record_8 : decode cX6_record 8 = .ok (.iconst 1, 1) := by decide +kernel
theorem dX6_record_9 : decode cX6_record 9 = .ok (.invokevirtual 44, 3) := by decide +kernel
theorem dX6_record_12 : decode cX6_record 12 = .ok (.ifCond .ne 5, 3) := by decide +kernel
theorem dX6_record_15 : decode cX6_record 15 = .ok (.iconst 0, 1) := by decide +kernel
theorem dX6_record_16 : decode cX6_record 16 = .ok (.ireturn, 1) := by decide +kernel
theorem dX6_record_17 : decode cX6_record 17 = .ok (.aload_n 0, 1) := by decide +kernel
theorem dX6_record_18 : decode cX6_record 18 = .ok (.iload_n 1, 1) := by decide +kernel
theorem dX6_record_19 : decode cX6_record 19 = .ok (.bipush 10, 2) := by decide +kernel
theorem dX6_record_21 : decode cX6_record 21 = .ok (.iconst 0, 1) := by decide +kernel
theorem dX6_record_22 : decode cX6_record 22 = .ok (.invokevirtual 53, 3) := by decide +kernel
theorem dX6_record_25 : decode cX6_record 25 = .ok (.ireturn, 1) := by decide +kernel
theorem dX6_bottom_0 : decode cX6_bottom 0 = .ok (.iload_n 1, 1) := by decide +kernel
theorem dX6_bottom_1 : decode cX6_bottom 1 = .ok (.istore_n 2, 1) := by decide +kernel
theorem dX6_bottom_2 : decode cX6_bottom 2 = .ok (.aload_n 0, 1) := by decide +kernel
theorem dX6_bottom_3 : decode cX6_bottom 3 = .ok (.getfield 13, 3) := by decide +kernel
theorem dX6_bottom_6 : decode cX6_bottom 6 = .ok (.iload_n 2, 1) := by decide +kernel
theorem dX6_bottom_7 : decode cX6_bottom 7 = .ok (.iaload, 1) := by decide +kernel
theorem dX6_bottom_8 : decode cX6_bottom 8 = .ok (.bipush 11, 2) := by decide +kernel
theorem dX6_bottom_10 : decode cX6_bottom 10 = .ok (.if_icmp .ne 13, 3) := by decide +kernel
theorem dX6_bottom_13 : decode cX6_bottom 13 = .ok (.aload_n 0, 1) := by decide +kernel
theorem dX6_bottom_14 : decode cX6_bottom 14 = .ok (.getfield 22, 3) := by decide +kernel
theorem dX6_bottom_17 : decode cX6_bottom 17 = .ok (.iload_n 2, 1) := by decide +kernel
theorem dX6_bottom_18 : decode cX6_bottom 18 = .ok (.iaload, 1) := by decide +kernel
theorem dX6_bottom_19 : decode cX6_bottom 19 = .ok (.istore_n 2, 1) := by decide +kernel
theorem dX6_bottom_20 : decode cX6_bottom 20 = .ok (.goto (-18), 3) := by decide +kernel
theorem dX6_bottom_23 : decode cX6_bottom 23 = .ok (.iload_n 2, 1) := by decide +kernel
theorem dX6_bottom_24 : decode cX6_bottom 24 = .ok (.ireturn, 1) := by decide +kernel
theorem dX6_sort_0 : decode cX6_sort 0 = .ok (.aload_n 0, 1) := by decide +kernel
theorem dX6_sort_1 : decode cX6_sort 1 = .ok (.getfield 13, 3) := by decide +kernel
theorem dX6_sort_4 : decode cX6_sort 4 = .ok (.aload_n 0, 1) := by decide +kernel
theorem dX6_sort_5 : decode cX6_sort 5 = .ok (.iload_n 1, 1) := by decide +kernel
theorem dX6_sort_6 : decode cX6_sort 6 = .ok (.invokevirtual 57, 3) := by decide +kernel
theorem dX6_sort_9 : decode cX6_sort 9 = .ok (.iaload, 1) := by decide +kernel
theorem dX6_sort_10 : decode cX6_sort 10 = .ok (.ireturn, 1) := by decide +kernel
theorem dX6_windows_0 : decode cX6_windows 0 = .ok (.iconst 0, 1) := by decide +kernel
theorem dX6_windows_1 : decode cX6_windows 1 = .ok (.istore_n 2, 1) := by decide +kernel
theorem dX6_windows_2 : decode cX6_windows 2 = .ok (.iload_n 1, 1) := by decide +kernel
theorem dX6_windows_3 : decode cX6_windows 3 = .ok (.istore_n 3, 1) := by decide +kernel
theorem dX6_windows_4 : decode cX6_windows 4 = .ok (.aload_n 0, 1) := by decide +kernel
theorem dX6_windows_5 : decode cX6_windows 5 = .ok (.getfield 13, 3) := by decide +kernel
theorem dX6_windows_8 : decode cX6_windows 8 = .ok (.iload_n 3, 1) := by decide +kernel
theorem dX6_windows_9 : decode cX6_windows 9 = .ok (.iaload, 1) := by decide +kernel
theorem dX6_windows_10 : decode cX6_windows 10 = .ok (.bipush 11, 2) := by decide +kernel
theorem dX6_windows_12 : decode cX6_windows 12 = .ok (.if_icmp .ne 16, 3) := by decide +kernel
theorem dX6_windows_15 : decode cX6_windows 15 = .ok (.iinc 2 1, 3) := by decide +kernel
theorem dX6_windows_18 : decode cX6_windows 18 = .ok (.aload_n 0, 1) := by decide +kernel
theorem dX6_windows_19 : decode cX6_windows 19 = .ok (.getfield 22, 3) := by decide +kernel
theorem dX6_windows_22 : decode cX6_windows 22 = .ok (.iload_n 3, 1) := by decide +kernel
theorem dX6_windows_23 : decode cX6_windows 23 = .ok (.iaload, 1) := by decide +kernel
theorem dX6_windows_24 : decode cX6_windows 24 = .ok (.istore_n 3, 1) := by decide +kernel
theorem dX6_windows_25 : decode cX6_windows 25 = .ok (.goto (-21), 3) := by decide +kernel
theorem dX6_windows_28 : decode cX6_windows 28 = .ok (.iload_n 2, 1) := by decide +kernel
theorem dX6_windows_29 : decode cX6_windows 29 = .ok (.ireturn, 1) := by decide +kernel
theorem dX6_window_0 : decode cX6_window 0 = .ok (.aload_n 0, 1) := by decide +kernel
theorem dX6_window_1 : decode cX6_window 1 = .ok (.iload_n 1, 1) := by decide +kernel
theorem dX6_window_2 : decode cX6_window 2 = .ok (.iload_n 2, 1) := by decide +kernel
theorem dX6_window_3 : decode cX6_window 3 = .ok (.invokevirtual 61, 3) := by decide +kernel
theorem dX6_window_6 : decode cX6_window 6 = .ok (.ifCond .ne 5, 3) := by decide +kernel
theorem dX6_window_9 : decode cX6_window 9 = .ok (.iconst 0, 1) := by decide +kernel
theorem dX6_window_10 : decode cX6_window 10 = .ok (.ireturn, 1) := by decide +kernel
theorem dX6_window_11 : decode cX6_window 11 = .ok (.aload_n 0, 1) := by decide +kernel
theorem dX6_window_12 : decode cX6_window 12 = .ok (.getfield 7, 3) := by decide +kernel
theorem dX6_window_15 : decode cX6_window 15 = .ok (.iload_n 2, 1) := by decide +kernel
theorem dX6_window_16 : decode cX6_window 16 = .ok (.iaload, 1) := by decide +kernel
theorem dX6_window_17 : decode cX6_window 17 = .ok (.istore 4, 2) := by decide +kernel
theorem dX6_window_19 : decode cX6_window 19 = .ok (.aload_n 0, 1) := by decide +kernel
theorem dX6_window_20 : decode cX6_window 20 = .ok (.iload 4, 2) := by decide +kernel
theorem dX6_window_22 : decode cX6_window 22 = .ok (.ifCond .lt 7, 3) := by decide +kernel
theorem dX6_window_25 : decode cX6_window 25 = .ok (.iconst 1, 1) := by decide +kernel
theorem dX6_window_26 : decode cX6_window 26 = .ok (.goto 4, 3) := by decide +kernel
theorem dX6_window_29 : decode cX6_window 29 = .ok (.iconst 0, 1) := by decide +kernel
theorem dX6_window_30 : decode cX6_window 30 = .ok (.iconst 2, 1) := by decide +kernel
theorem dX6_window_31 : decode cX6_window 31 = .ok (.invokevirtual 44, 3) := by decide +kernel
theorem dX6_window_34 : decode cX6_window 34 = .ok (.ifCond .eq 64, 3) := by decide +kernel
theorem dX6_window_37 : decode cX6_window 37 = .ok (.aload_n 0, 1) := by decide +kernel
theorem dX6_window_38 : decode cX6_window 38 = .ok (.aload_n 0, 1) := by decide +kernel
theorem dX6_window_39 : decode cX6_window 39 = .ok (.getfield 13, 3) := by decide +kernel
theorem dX6_window_42 : decode cX6_window 42 = .ok (.iload 4, 2) := by decide +kernel
theorem dX6_window_44 : decode cX6_window 44 = .ok (.iaload, 1) := by decide +kernel
theorem dX6_window_45 : decode cX6_window 45 = .ok (.bipush 9, 2) := by decide +kernel
theorem dX6_window_47 : decode cX6_window 47 = .ok (.if_icmp .eq 19, 3) := by decide +kernel
theorem dX6_window_50 : decode cX6_window 50 = .ok (.aload_n 0, 1) := by decide +kernel
theorem dX6_window_51 : decode cX6_window 51 = .ok (.getfield 13, 3) := by decide +kernel
theorem dX6_window_54 : decode cX6_window 54 = .ok (.iload 4, 2) := by decide +kernel
theorem dX6_window_56 : decode cX6_window 56 = .ok (.iaload, 1) := by decide +kernel
theorem dX6_window_57 : decode cX6_window 57 = .ok (.bipush 10, 2) := by decide +kernel
theorem dX6_window_59 : decode cX6_window 59 = .ok (.if_icmp .eq 7, 3) := by decide +kernel
theorem dX6_window_62 : decode cX6_window 62 = .ok (.iconst 1, 1) := by decide +kernel
theorem dX6_window_63 : decode cX6_window 63 = .ok (.goto 4, 3) := by decide +kernel
theorem dX6_window_66 : decode cX6_window 66 = .ok (.iconst 0, 1) := by decide +kernel
theorem dX6_window_67 : decode cX6_window 67 = .ok (.iconst 3, 1) := by decide +kernel
theorem dX6_window_68 : decode cX6_window 68 = .ok (.invokevirtual 44, 3) := by decide +kernel
theorem dX6_window_71 : decode cX6_window 71 = .ok (.ifCond .eq 27, 3) := by decide +kernel
theorem dX6_window_74 : decode cX6_window 74 = .ok (.aload_n 0, 1) := by decide +kernel
theorem dX6_window_75 : decode cX6_window 75 = .ok (.aload_n 0, 1) := by decide +kernel
theorem dX6_window_76 : decode cX6_window 76 = .ok (.iload 4, 2) := by decide +kernel
theorem dX6_window_78 : decode cX6_window 78 = .ok (.invokevirtual 65, 3) := by decide +kernel
theorem dX6_window_81 : decode cX6_window 81 = .ok (.bipush 6, 2) := by decide +kernel
theorem dX6_window_83 : decode cX6_window 83 = .ok (.if_icmp .ge 7, 3) := by decide +kernel
theorem dX6_window_86 : decode cX6_window 86 = .ok (.iconst 1, 1) := by decide +kernel
theorem dX6_window_87 : decode cX6_window 87 = .ok (.goto 4, 3) := by decide +kernel
theorem dX6_window_90 : decode cX6_window 90 = .ok (.iconst 0, 1) := by decide +kernel
theorem dX6_window_91 : decode cX6_window 91 = .ok (.iconst 4, 1) := by decide +kernel
theorem dX6_window_92 : decode cX6_window 92 = .ok (.invokevirtual 44, 3) := by decide +kernel
theorem dX6_window_95 : decode cX6_window 95 = .ok (.ifCond .ne 5, 3) := by decide +kernel
theorem dX6_window_98 : decode cX6_window 98 = .ok (.iconst 0, 1) := by decide +kernel
theorem dX6_window_99 : decode cX6_window 99 = .ok (.ireturn, 1) := by decide +kernel
theorem dX6_window_100 : decode cX6_window 100 = .ok (.aload_n 0, 1) := by decide +kernel
theorem dX6_window_101 : decode cX6_window 101 = .ok (.iload_n 1, 1) := by decide +kernel
theorem dX6_window_102 : decode cX6_window 102 = .ok (.bipush 11, 2) := by decide +kernel
theorem dX6_window_104 : decode cX6_window 104 = .ok (.iconst 0, 1) := by decide +kernel
theorem dX6_window_105 : decode cX6_window 105 = .ok (.invokevirtual 53, 3) := by decide +kernel
theorem dX6_window_108 : decode cX6_window 108 = .ok (.istore 5, 2) := by decide +kernel
theorem dX6_window_110 : decode cX6_window 110 = .ok (.aload_n 0, 1) := by decide +kernel
theorem dX6_window_111 : decode cX6_window 111 = .ok (.getfield 22, 3) := by decide +kernel
theorem dX6_window_114 : decode cX6_window 114 = .ok (.iload 5, 2) := by decide +kernel
theorem dX6_window_116 : decode cX6_window 116 = .ok (.iconst 1, 1) := by decide +kernel
theorem dX6_window_117 : decode cX6_window 117 = .ok (.isub, 1) := by decide +kernel
theorem dX6_window_118 : decode cX6_window 118 = .ok (.iload 4, 2) := by decide +kernel
theorem dX6_window_120 : decode cX6_window 120 = .ok (.iastore, 1) := by decide +kernel
theorem dX6_window_121 : decode cX6_window 121 = .ok (.aload_n 0, 1) := by decide +kernel
theorem dX6_window_122 : decode cX6_window 122 = .ok (.getfield 25, 3) := by decide +kernel
theorem dX6_window_125 : decode cX6_window 125 = .ok (.iload 5, 2) := by decide +kernel
theorem dX6_window_127 : decode cX6_window 127 = .ok (.iconst 1, 1) := by decide +kernel
theorem dX6_window_128 : decode cX6_window 128 = .ok (.isub, 1) := by decide +kernel
theorem dX6_window_129 : decode cX6_window 129 = .ok (.iload_n 3, 1) := by decide +kernel
theorem dX6_window_130 : decode cX6_window 130 = .ok (.iastore, 1) := by decide +kernel
theorem dX6_window_131 : decode cX6_window 131 = .ok (.iload 5, 2) := by decide +kernel
theorem dX6_window_133 : decode cX6_window 133 = .ok (.ireturn, 1) := by decide +kernel
theorem dX6_copy_0 : decode cX6_copy 0 = .ok (.aload_n 0, 1) := by decide +kernel
theorem dX6_copy_1 : decode cX6_copy 1 = .ok (.iload_n 1, 1) := by decide +kernel
theorem dX6_copy_2 : decode cX6_copy 2 = .ok (.iconst 0, 1) := by decide +kernel
theorem dX6_copy_3 : decode cX6_copy 3 = .ok (.bipush 7, 2) := by decide +kernel
theorem dX6_copy_5 : decode cX6_copy 5 = .ok (.invokestatic 40, 3) := by decide +kernel
theorem dX6_copy_8 : decode cX6_copy 8 = .ok (.ifCond .eq 17, 3) := by decide +kernel
theorem dX6_copy_11 : decode cX6_copy 11 = .ok (.iload_n 2, 1) := by decide +kernel
theorem dX6_copy_12 : decode cX6_copy 12 = .ok (.iconst (-1), 1) := by decide +kernel
theorem dX6_copy_13 : decode cX6_copy 13 = .ok (.bipush 7, 2) := by decide +kernel
theorem dX6_copy_15 : decode cX6_copy 15 = .ok (.invokestatic 40, 3) := by decide +kernel
theorem dX6_copy_18 : decode cX6_copy 18 = .ok (.ifCond .eq 7, 3) := by decide +kernel
theorem dX6_copy_21 : decode cX6_copy 21 = .ok (.iconst 1, 1) := by decide +kernel
theorem dX6_copy_22 : decode cX6_copy 22 = .ok (.goto 4, 3) := by decide +kernel
theorem dX6_copy_25 : decode cX6_copy 25 = .ok (.iconst 0, 1) := by decide +kernel
theorem dX6_copy_26 : decode cX6_copy 26 = .ok (.iconst 1, 1) := by decide +kernel
theorem dX6_copy_27 : decode cX6_copy 27 = .ok (.invokevirtual 44, 3) := by decide +kernel
theorem dX6_copy_30 : decode cX6_copy 30 = .ok (.ifCond .ne 5, 3) := by decide +kernel
theorem dX6_copy_33 : decode cX6_copy 33 = .ok (.iconst 0, 1) := by decide +kernel
theorem dX6_copy_34 : decode cX6_copy 34 = .ok (.ireturn, 1) := by decide +kernel
theorem dX6_copy_35 : decode cX6_copy 35 = .ok (.iload_n 2, 1) := by decide +kernel
theorem dX6_copy_36 : decode cX6_copy 36 = .ok (.ifCond .ge 7, 3) := by decide +kernel
theorem dX6_copy_39 : decode cX6_copy 39 = .ok (.iconst (-1), 1) := by decide +kernel
theorem dX6_copy_40 : decode cX6_copy 40 = .ok (.goto 9, 3) := by decide +kernel
theorem dX6_copy_43 : decode cX6_copy 43 = .ok (.aload_n 0, 1) := by decide +kernel
theorem dX6_copy_44 : decode cX6_copy 44 = .ok (.getfield 7, 3) := by decide +kernel
theorem dX6_copy_47 : decode cX6_copy 47 = .ok (.iload_n 2, 1) := by decide +kernel
theorem dX6_copy_48 : decode cX6_copy 48 = .ok (.iaload, 1) := by decide +kernel
theorem dX6_copy_49 : decode cX6_copy 49 = .ok (.istore_n 3, 1) := by decide +kernel
theorem dX6_copy_50 : decode cX6_copy 50 = .ok (.aload_n 0, 1) := by decide +kernel
theorem dX6_copy_51 : decode cX6_copy 51 = .ok (.getfield 7, 3) := by decide +kernel
theorem dX6_copy_54 : decode cX6_copy 54 = .ok (.iload_n 1, 1) := by decide +kernel
theorem dX6_copy_55 : decode cX6_copy 55 = .ok (.iaload, 1) := by decide +kernel
end
section
theorem dX6_copy_56 : decode cX6_copy 56 = .ok (.iload_n 3, 1) := by decide +kernel
theorem dX6_copy_57 : decode cX6_copy 57 = .ok (.if_icmp .ne 7, 3) := by decide +kernel
theorem dX6_copy_60 : decode cX6_copy 60 = .ok (.iconst 1, 1) := by decide +kernel
theorem dX6_copy_61 : decode cX6_copy 61 = .ok (.goto 4, 3) := by decide +kernel
theorem dX6_copy_64 : decode cX6_copy 64 = .ok (.iconst 0, 1) := by decide +kernel
theorem dX6_copy_65 : decode cX6_copy 65 = .ok (.istore 4, 2) := by decide +kernel
theorem dX6_copy_67 : decode cX6_copy 67 = .ok (.aload_n 0, 1) := by decide +kernel
theorem dX6_copy_68 : decode cX6_copy 68 = .ok (.getfield 7, 3) := by decide +kernel
theorem dX6_copy_71 : decode cX6_copy 71 = .ok (.iload_n 1, 1) := by decide +kernel
theorem dX6_copy_72 : decode cX6_copy 72 = .ok (.iload_n 3, 1) := by decide +kernel
theorem dX6_copy_73 : decode cX6_copy 73 = .ok (.iastore, 1) := by decide +kernel
theorem dX6_copy_74 : decode cX6_copy 74 = .ok (.iload 4, 2) := by decide +kernel
theorem dX6_copy_76 : decode cX6_copy 76 = .ok (.ireturn, 1) := by decide +kernel
theorem dX6_lose_0 : decode cX6_lose 0 = .ok (.aload_n 0, 1) := by decide +kernel
theorem dX6_lose_1 : decode cX6_lose 1 = .ok (.iload_n 1, 1) := by decide +kernel
theorem dX6_lose_2 : decode cX6_lose 2 = .ok (.iconst 0, 1) := by decide +kernel
theorem dX6_lose_3 : decode cX6_lose 3 = .ok (.invokevirtual 61, 3) := by decide +kernel
theorem dX6_lose_6 : decode cX6_lose 6 = .ok (.ifCond .ne 5, 3) := by decide +kernel
theorem dX6_lose_9 : decode cX6_lose 9 = .ok (.iconst 0, 1) := by decide +kernel
theorem dX6_lose_10 : decode cX6_lose 10 = .ok (.ireturn, 1) := by decide +kernel
theorem dX6_lose_11 : decode cX6_lose 11 = .ok (.aload_n 0, 1) := by decide +kernel
theorem dX6_lose_12 : decode cX6_lose 12 = .ok (.getfield 7, 3) := by decide +kernel
theorem dX6_lose_15 : decode cX6_lose 15 = .ok (.iload_n 1, 1) := by decide +kernel
theorem dX6_lose_16 : decode cX6_lose 16 = .ok (.iaload, 1) := by decide +kernel
theorem dX6_lose_17 : decode cX6_lose 17 = .ok (.istore_n 3, 1) := by decide +kernel
theorem dX6_lose_18 : decode cX6_lose 18 = .ok (.aload_n 0, 1) := by decide +kernel
theorem dX6_lose_19 : decode cX6_lose 19 = .ok (.iload_n 3, 1) := by decide +kernel
theorem dX6_lose_20 : decode cX6_lose 20 = .ok (.ifCond .lt 7, 3) := by decide +kernel
theorem dX6_lose_23 : decode cX6_lose 23 = .ok (.iconst 1, 1) := by decide +kernel
theorem dX6_lose_24 : decode cX6_lose 24 = .ok (.goto 4, 3) := by decide +kernel
theorem dX6_lose_27 : decode cX6_lose 27 = .ok (.iconst 0, 1) := by decide +kernel
theorem dX6_lose_28 : decode cX6_lose 28 = .ok (.iconst 2, 1) := by decide +kernel
theorem dX6_lose_29 : decode cX6_lose 29 = .ok (.invokevirtual 44, 3) := by decide +kernel
theorem dX6_lose_32 : decode cX6_lose 32 = .ok (.ifCond .eq 27, 3) := by decide +kernel
theorem dX6_lose_35 : decode cX6_lose 35 = .ok (.aload_n 0, 1) := by decide +kernel
theorem dX6_lose_36 : decode cX6_lose 36 = .ok (.aload_n 0, 1) := by decide +kernel
theorem dX6_lose_37 : decode cX6_lose 37 = .ok (.getfield 13, 3) := by decide +kernel
theorem dX6_lose_40 : decode cX6_lose 40 = .ok (.iload_n 3, 1) := by decide +kernel
theorem dX6_lose_41 : decode cX6_lose 41 = .ok (.iaload, 1) := by decide +kernel
theorem dX6_lose_42 : decode cX6_lose 42 = .ok (.bipush 10, 2) := by decide +kernel
theorem dX6_lose_44 : decode cX6_lose 44 = .ok (.if_icmp .ge 7, 3) := by decide +kernel
theorem dX6_lose_47 : decode cX6_lose 47 = .ok (.iconst 1, 1) := by decide +kernel
theorem dX6_lose_48 : decode cX6_lose 48 = .ok (.goto 4, 3) := by decide +kernel
theorem dX6_lose_51 : decode cX6_lose 51 = .ok (.iconst 0, 1) := by decide +kernel
theorem dX6_lose_52 : decode cX6_lose 52 = .ok (.iconst 3, 1) := by decide +kernel
theorem dX6_lose_53 : decode cX6_lose 53 = .ok (.invokevirtual 44, 3) := by decide +kernel
theorem dX6_lose_56 : decode cX6_lose 56 = .ok (.ifCond .ne 5, 3) := by decide +kernel
theorem dX6_lose_59 : decode cX6_lose 59 = .ok (.iconst 0, 1) := by decide +kernel
theorem dX6_lose_60 : decode cX6_lose 60 = .ok (.ireturn, 1) := by decide +kernel
theorem dX6_lose_61 : decode cX6_lose 61 = .ok (.aload_n 0, 1) := by decide +kernel
theorem dX6_lose_62 : decode cX6_lose 62 = .ok (.getfield 13, 3) := by decide +kernel
theorem dX6_lose_65 : decode cX6_lose 65 = .ok (.iload_n 3, 1) := by decide +kernel
theorem dX6_lose_66 : decode cX6_lose 66 = .ok (.iaload, 1) := by decide +kernel
theorem dX6_lose_67 : decode cX6_lose 67 = .ok (.bipush 9, 2) := by decide +kernel
theorem dX6_lose_69 : decode cX6_lose 69 = .ok (.if_icmp .ne 7, 3) := by decide +kernel
theorem dX6_lose_72 : decode cX6_lose 72 = .ok (.iconst 1, 1) := by decide +kernel
theorem dX6_lose_73 : decode cX6_lose 73 = .ok (.goto 4, 3) := by decide +kernel
theorem dX6_lose_76 : decode cX6_lose 76 = .ok (.iconst 0, 1) := by decide +kernel
theorem dX6_lose_77 : decode cX6_lose 77 = .ok (.istore 4, 2) := by decide +kernel
theorem dX6_lose_79 : decode cX6_lose 79 = .ok (.iload 4, 2) := by decide +kernel
theorem dX6_lose_81 : decode cX6_lose 81 = .ok (.ifCond .eq 26, 3) := by decide +kernel
theorem dX6_lose_84 : decode cX6_lose 84 = .ok (.aload_n 0, 1) := by decide +kernel
theorem dX6_lose_85 : decode cX6_lose 85 = .ok (.iload_n 2, 1) := by decide +kernel
theorem dX6_lose_86 : decode cX6_lose 86 = .ok (.iconst 0, 1) := by decide +kernel
theorem dX6_lose_87 : decode cX6_lose 87 = .ok (.aload_n 0, 1) := by decide +kernel
theorem dX6_lose_88 : decode cX6_lose 88 = .ok (.getfield 16, 3) := by decide +kernel
theorem dX6_lose_91 : decode cX6_lose 91 = .ok (.iload_n 3, 1) := by decide +kernel
theorem dX6_lose_92 : decode cX6_lose 92 = .ok (.iaload, 1) := by decide +kernel
theorem dX6_lose_93 : decode cX6_lose 93 = .ok (.iconst 1, 1) := by decide +kernel
theorem dX6_lose_94 : decode cX6_lose 94 = .ok (.isub, 1) := by decide +kernel
theorem dX6_lose_95 : decode cX6_lose 95 = .ok (.invokestatic 40, 3) := by decide +kernel
theorem dX6_lose_98 : decode cX6_lose 98 = .ok (.iconst 4, 1) := by decide +kernel
theorem dX6_lose_99 : decode cX6_lose 99 = .ok (.invokevirtual 44, 3) := by decide +kernel
theorem dX6_lose_102 : decode cX6_lose 102 = .ok (.ifCond .ne 5, 3) := by decide +kernel
theorem dX6_lose_105 : decode cX6_lose 105 = .ok (.iconst 0, 1) := by decide +kernel
theorem dX6_lose_106 : decode cX6_lose 106 = .ok (.ireturn, 1) := by decide +kernel
theorem dX6_lose_107 : decode cX6_lose 107 = .ok (.bipush 6, 2) := by decide +kernel
theorem dX6_lose_109 : decode cX6_lose 109 = .ok (.iload_n 3, 1) := by decide +kernel
theorem dX6_lose_110 : decode cX6_lose 110 = .ok (.imul, 1) := by decide +kernel
theorem dX6_lose_111 : decode cX6_lose 111 = .ok (.iload 4, 2) := by decide +kernel
theorem dX6_lose_113 : decode cX6_lose 113 = .ok (.ifCond .eq 7, 3) := by decide +kernel
theorem dX6_lose_116 : decode cX6_lose 116 = .ok (.iload_n 2, 1) := by decide +kernel
theorem dX6_lose_117 : decode cX6_lose 117 = .ok (.goto 4, 3) := by decide +kernel
theorem dX6_lose_120 : decode cX6_lose 120 = .ok (.iconst 0, 1) := by decide +kernel
theorem dX6_lose_121 : decode cX6_lose 121 = .ok (.iadd, 1) := by decide +kernel
theorem dX6_lose_122 : decode cX6_lose 122 = .ok (.istore 5, 2) := by decide +kernel
theorem dX6_lose_124 : decode cX6_lose 124 = .ok (.aload_n 0, 1) := by decide +kernel
theorem dX6_lose_125 : decode cX6_lose 125 = .ok (.aload_n 0, 1) := by decide +kernel
theorem dX6_lose_126 : decode cX6_lose 126 = .ok (.getfield 32, 3) := by decide +kernel
theorem dX6_lose_129 : decode cX6_lose 129 = .ok (.iload 5, 2) := by decide +kernel
theorem dX6_lose_131 : decode cX6_lose 131 = .ok (.baload, 1) := by decide +kernel
theorem dX6_lose_132 : decode cX6_lose 132 = .ok (.ifCond .ne 7, 3) := by decide +kernel
theorem dX6_lose_135 : decode cX6_lose 135 = .ok (.iconst 1, 1) := by decide +kernel
theorem dX6_lose_136 : decode cX6_lose 136 = .ok (.goto 4, 3) := by decide +kernel
theorem dX6_lose_139 : decode cX6_lose 139 = .ok (.iconst 0, 1) := by decide +kernel
theorem dX6_lose_140 : decode cX6_lose 140 = .ok (.iconst 2, 1) := by decide +kernel
theorem dX6_lose_141 : decode cX6_lose 141 = .ok (.invokevirtual 44, 3) := by decide +kernel
theorem dX6_lose_144 : decode cX6_lose 144 = .ok (.ifCond .ne 5, 3) := by decide +kernel
theorem dX6_lose_147 : decode cX6_lose 147 = .ok (.iconst 0, 1) := by decide +kernel
theorem dX6_lose_148 : decode cX6_lose 148 = .ok (.ireturn, 1) := by decide +kernel
theorem dX6_lose_149 : decode cX6_lose 149 = .ok (.aload_n 0, 1) := by decide +kernel
theorem dX6_lose_150 : decode cX6_lose 150 = .ok (.getfield 32, 3) := by decide +kernel
theorem dX6_lose_153 : decode cX6_lose 153 = .ok (.iload 5, 2) := by decide +kernel
theorem dX6_lose_155 : decode cX6_lose 155 = .ok (.iconst 1, 1) := by decide +kernel
theorem dX6_lose_156 : decode cX6_lose 156 = .ok (.bastore, 1) := by decide +kernel
theorem dX6_lose_157 : decode cX6_lose 157 = .ok (.iload 4, 2) := by decide +kernel
theorem dX6_lose_159 : decode cX6_lose 159 = .ok (.ifCond .eq 12, 3) := by decide +kernel
theorem dX6_lose_162 : decode cX6_lose 162 = .ok (.aload_n 0, 1) := by decide +kernel
theorem dX6_lose_163 : decode cX6_lose 163 = .ok (.getfield 19, 3) := by decide +kernel
theorem dX6_lose_166 : decode cX6_lose 166 = .ok (.iload_n 3, 1) := by decide +kernel
theorem dX6_lose_167 : decode cX6_lose 167 = .ok (.iaload, 1) := by decide +kernel
theorem dX6_lose_168 : decode cX6_lose 168 = .ok (.goto 9, 3) := by decide +kernel
theorem dX6_lose_171 : decode cX6_lose 171 = .ok (.aload_n 0, 1) := by decide +kernel
theorem dX6_lose_172 : decode cX6_lose 172 = .ok (.getfield 16, 3) := by decide +kernel
theorem dX6_lose_175 : decode cX6_lose 175 = .ok (.iload_n 3, 1) := by decide +kernel
theorem dX6_lose_176 : decode cX6_lose 176 = .ok (.iaload, 1) := by decide +kernel
theorem dX6_lose_177 : decode cX6_lose 177 = .ok (.ireturn, 1) := by decide +kernel
theorem dX6_resize_0 : decode cX6_resize 0 = .ok (.aload_n 0, 1) := by decide +kernel
theorem dX6_resize_1 : decode cX6_resize 1 = .ok (.iload_n 1, 1) := by decide +kernel
theorem dX6_resize_2 : decode cX6_resize 2 = .ok (.iconst 0, 1) := by decide +kernel
theorem dX6_resize_3 : decode cX6_resize 3 = .ok (.bipush 7, 2) := by decide +kernel
theorem dX6_resize_5 : decode cX6_resize 5 = .ok (.invokestatic 40, 3) := by decide +kernel
theorem dX6_resize_8 : decode cX6_resize 8 = .ok (.ifCond .eq 13, 3) := by decide +kernel
theorem dX6_resize_11 : decode cX6_resize 11 = .ok (.iload_n 2, 1) := by decide +kernel
theorem dX6_resize_12 : decode cX6_resize 12 = .ok (.bipush 24, 2) := by decide +kernel
theorem dX6_resize_14 : decode cX6_resize 14 = .ok (.if_icmp .gt 7, 3) := by decide +kernel
theorem dX6_resize_17 : decode cX6_resize 17 = .ok (.iconst 1, 1) := by decide +kernel
theorem dX6_resize_18 : decode cX6_resize 18 = .ok (.goto 4, 3) := by decide +kernel
theorem dX6_resize_21 : decode cX6_resize 21 = .ok (.iconst 0, 1) := by decide +kernel
theorem dX6_resize_22 : decode cX6_resize 22 = .ok (.iconst 1, 1) := by decide +kernel
theorem dX6_resize_23 : decode cX6_resize 23 = .ok (.invokevirtual 44, 3) := by decide +kernel
theorem dX6_resize_26 : decode cX6_resize 26 = .ok (.ifCond .ne 5, 3) := by decide +kernel
theorem dX6_resize_29 : decode cX6_resize 29 = .ok (.iconst 0, 1) := by decide +kernel
theorem dX6_resize_30 : decode cX6_resize 30 = .ok (.ireturn, 1) := by decide +kernel
theorem dX6_resize_31 : decode cX6_resize 31 = .ok (.aload_n 0, 1) := by decide +kernel
theorem dX6_resize_32 : decode cX6_resize 32 = .ok (.getfield 7, 3) := by decide +kernel
theorem dX6_resize_35 : decode cX6_resize 35 = .ok (.iload_n 1, 1) := by decide +kernel
theorem dX6_resize_36 : decode cX6_resize 36 = .ok (.iaload, 1) := by decide +kernel
theorem dX6_resize_37 : decode cX6_resize 37 = .ok (.istore_n 3, 1) := by decide +kernel
theorem dX6_resize_38 : decode cX6_resize 38 = .ok (.aload_n 0, 1) := by decide +kernel
theorem dX6_resize_39 : decode cX6_resize 39 = .ok (.iload_n 3, 1) := by decide +kernel
theorem dX6_resize_40 : decode cX6_resize 40 = .ok (.ifCond .lt 7, 3) := by decide +kernel
theorem dX6_resize_43 : decode cX6_resize 43 = .ok (.iconst 1, 1) := by decide +kernel
theorem dX6_resize_44 : decode cX6_resize 44 = .ok (.goto 4, 3) := by decide +kernel
theorem dX6_resize_47 : decode cX6_resize 47 = .ok (.iconst 0, 1) := by decide +kernel
theorem dX6_resize_48 : decode cX6_resize 48 = .ok (.iconst 2, 1) := by decide +kernel
theorem dX6_resize_49 : decode cX6_resize 49 = .ok (.invokevirtual 44, 3) := by decide +kernel
theorem dX6_resize_52 : decode cX6_resize 52 = .ok (.ifCond .eq 69, 3) := by decide +kernel
theorem dX6_resize_55 : decode cX6_resize 55 = .ok (.aload_n 0, 1) := by decide +kernel
theorem dX6_resize_56 : decode cX6_resize 56 = .ok (.aload_n 0, 1) := by decide +kernel
theorem dX6_resize_57 : decode cX6_resize 57 = .ok (.getfield 13, 3) := by decide +kernel
theorem dX6_resize_60 : decode cX6_resize 60 = .ok (.iload_n 3, 1) := by decide +kernel
theorem dX6_resize_61 : decode cX6_resize 61 = .ok (.iaload, 1) := by decide +kernel
theorem dX6_resize_62 : decode cX6_resize 62 = .ok (.bipush 9, 2) := by decide +kernel
theorem dX6_resize_64 : decode cX6_resize 64 = .ok (.if_icmp .ge 7, 3) := by decide +kernel
theorem dX6_resize_67 : decode cX6_resize 67 = .ok (.iconst 1, 1) := by decide +kernel
theorem dX6_resize_68 : decode cX6_resize 68 = .ok (.goto 4, 3) := by decide +kernel
theorem dX6_resize_71 : decode cX6_resize 71 = .ok (.iconst 0, 1) := by decide +kernel
theorem dX6_resize_72 : decode cX6_resize 72 = .ok (.iconst 3, 1) := by decide +kernel
theorem dX6_resize_73 : decode cX6_resize 73 = .ok (.invokevirtual 44, 3) := by decide +kernel
theorem dX6_resize_76 : decode cX6_resize 76 = .ok (.ifCond .eq 45, 3) := by decide +kernel
theorem dX6_resize_79 : decode cX6_resize 79 = .ok (.aload_n 0, 1) := by decide +kernel
theorem dX6_resize_80 : decode cX6_resize 80 = .ok (.iload_n 2, 1) := by decide +kernel
theorem dX6_resize_81 : decode cX6_resize 81 = .ok (.ifCond .lt 7, 3) := by decide +kernel
theorem dX6_resize_84 : decode cX6_resize 84 = .ok (.iconst 1, 1) := by decide +kernel
theorem dX6_resize_85 : decode cX6_resize 85 = .ok (.goto 4, 3) := by decide +kernel
theorem dX6_resize_88 : decode cX6_resize 88 = .ok (.iconst 0, 1) := by decide +kernel
theorem dX6_resize_89 : decode cX6_resize 89 = .ok (.iconst 4, 1) := by decide +kernel
theorem dX6_resize_90 : decode cX6_resize 90 = .ok (.invokevirtual 44, 3) := by decide +kernel
theorem dX6_resize_93 : decode cX6_resize 93 = .ok (.ifCond .eq 28, 3) := by decide +kernel
theorem dX6_resize_96 : decode cX6_resize 96 = .ok (.aload_n 0, 1) := by decide +kernel
theorem dX6_resize_97 : decode cX6_resize 97 = .ok (.aload_n 0, 1) := by decide +kernel
theorem dX6_resize_98 : decode cX6_resize 98 = .ok (.getfield 32, 3) := by decide +kernel
theorem dX6_resize_101 : decode cX6_resize 101 = .ok (.bipush 6, 2) := by decide +kernel
theorem dX6_resize_103 : decode cX6_resize 103 = .ok (.iload_n 3, 1) := by decide +kernel
theorem dX6_resize_104 : decode cX6_resize 104 = .ok (.imul, 1) := by decide +kernel
theorem dX6_resize_105 : decode cX6_resize 105 = .ok (.baload, 1) := by decide +kernel
theorem dX6_resize_106 : decode cX6_resize 106 = .ok (.ifCond .ne 7, 3) := by decide +kernel
theorem dX6_resize_109 : decode cX6_resize 109 = .ok (.iconst 1, 1) := by decide +kernel
theorem dX6_resize_110 : decode cX6_resize 110 = .ok (.goto 4, 3) := by decide +kernel
theorem dX6_resize_113 : decode cX6_resize 113 = .ok (.iconst 0, 1) := by decide +kernel
theorem dX6_resize_114 : decode cX6_resize 114 = .ok (.iconst 2, 1) := by decide +kernel
theorem dX6_resize_115 : decode cX6_resize 115 = .ok (.invokevirtual 44, 3) := by decide +kernel
theorem dX6_resize_118 : decode cX6_resize 118 = .ok (.ifCond .ne 5, 3) := by decide +kernel
theorem dX6_resize_121 : decode cX6_resize 121 = .ok (.iconst 0, 1) := by decide +kernel
theorem dX6_resize_122 : decode cX6_resize 122 = .ok (.ireturn, 1) := by decide +kernel
theorem dX6_resize_123 : decode cX6_resize 123 = .ok (.aload_n 0, 1) := by decide +kernel
theorem dX6_resize_124 : decode cX6_resize 124 = .ok (.getfield 16, 3) := by decide +kernel
theorem dX6_resize_127 : decode cX6_resize 127 = .ok (.iload_n 3, 1) := by decide +kernel
theorem dX6_resize_128 : decode cX6_resize 128 = .ok (.iaload, 1) := by decide +kernel
theorem dX6_resize_129 : decode cX6_resize 129 = .ok (.iload_n 2, 1) := by decide +kernel
theorem dX6_resize_130 : decode cX6_resize 130 = .ok (.if_icmp .ge 12, 3) := by decide +kernel
theorem dX6_resize_133 : decode cX6_resize 133 = .ok (.aload_n 0, 1) := by decide +kernel
theorem dX6_resize_134 : decode cX6_resize 134 = .ok (.getfield 16, 3) := by decide +kernel
theorem dX6_resize_137 : decode cX6_resize 137 = .ok (.iload_n 3, 1) := by decide +kernel
theorem dX6_resize_138 : decode cX6_resize 138 = .ok (.iaload, 1) := by decide +kernel
theorem dX6_resize_139 : decode cX6_resize 139 = .ok (.goto 4, 3) := by decide +kernel
theorem dX6_resize_142 : decode cX6_resize 142 = .ok (.iload_n 2, 1) := by decide +kernel
theorem dX6_resize_143 : decode cX6_resize 143 = .ok (.istore 4, 2) := by decide +kernel
theorem dX6_resize_145 : decode cX6_resize 145 = .ok (.iload 4, 2) := by decide +kernel
theorem dX6_resize_147 : decode cX6_resize 147 = .ok (.istore 5, 2) := by decide +kernel
theorem dX6_resize_149 : decode cX6_resize 149 = .ok (.iload 5, 2) := by decide +kernel
theorem dX6_resize_151 : decode cX6_resize 151 = .ok (.bipush 24, 2) := by decide +kernel
theorem dX6_resize_153 : decode cX6_resize 153 = .ok (.if_icmp .ge 39, 3) := by decide +kernel
theorem dX6_resize_156 : decode cX6_resize 156 = .ok (.aload_n 0, 1) := by decide +kernel
theorem dX6_resize_157 : decode cX6_resize 157 = .ok (.getfield 28, 3) := by decide +kernel
theorem dX6_resize_160 : decode cX6_resize 160 = .ok (.bipush 24, 2) := by decide +kernel
theorem dX6_resize_162 : decode cX6_resize 162 = .ok (.iload_n 3, 1) := by decide +kernel
theorem dX6_resize_163 : decode cX6_resize 163 = .ok (.imul, 1) := by decide +kernel
theorem dX6_resize_164 : decode cX6_resize 164 = .ok (.iload 5, 2) := by decide +kernel
theorem dX6_resize_166 : decode cX6_resize 166 = .ok (.iadd, 1) := by decide +kernel
theorem dX6_resize_167 : decode cX6_resize 167 = .ok (.aload_n 0, 1) := by decide +kernel
theorem dX6_resize_168 : decode cX6_resize 168 = .ok (.getfield 13, 3) := by decide +kernel
theorem dX6_resize_171 : decode cX6_resize 171 = .ok (.iload_n 3, 1) := by decide +kernel
theorem dX6_resize_172 : decode cX6_resize 172 = .ok (.iaload, 1) := by decide +kernel
theorem dX6_resize_173 : decode cX6_resize 173 = .ok (.bipush 8, 2) := by decide +kernel
theorem dX6_resize_175 : decode cX6_resize 175 = .ok (.if_icmp .ne 9, 3) := by decide +kernel
theorem dX6_resize_178 : decode cX6_resize 178 = .ok (.ldc2_w 51, 3) := by decide +kernel
theorem dX6_resize_181 : decode cX6_resize 181 = .ok (.goto 4, 3) := by decide +kernel
theorem dX6_resize_184 : decode cX6_resize 184 = .ok (.lconst 0, 1) := by decide +kernel
theorem dX6_resize_185 : decode cX6_resize 185 = .ok (.lastore, 1) := by decide +kernel
theorem dX6_resize_186 : decode cX6_resize 186 = .ok (.iinc 5 1, 3) := by decide +kernel
theorem dX6_resize_189 : decode cX6_resize 189 = .ok (.goto (-40), 3) := by decide +kernel
theorem dX6_resize_192 : decode cX6_resize 192 = .ok (.aload_n 0, 1) := by decide +kernel
theorem dX6_resize_193 : decode cX6_resize 193 = .ok (.getfield 16, 3) := by decide +kernel
theorem dX6_resize_196 : decode cX6_resize 196 = .ok (.iload_n 3, 1) := by decide +kernel
theorem dX6_resize_197 : decode cX6_resize 197 = .ok (.iload_n 2, 1) := by decide +kernel
theorem dX6_resize_198 : decode cX6_resize 198 = .ok (.iastore, 1) := by decide +kernel
theorem dX6_resize_199 : decode cX6_resize 199 = .ok (.iload 4, 2) := by decide +kernel
theorem dX6_resize_201 : decode cX6_resize 201 = .ok (.ireturn, 1) := by decide +kernel
theorem dX6_size_0 : decode cX6_size 0 = .ok (.aload_n 0, 1) := by decide +kernel
theorem dX6_size_1 : decode cX6_size 1 = .ok (.iload_n 1, 1) := by decide +kernel
theorem dX6_size_2 : decode cX6_size 2 = .ok (.iconst 0, 1) := by decide +kernel
theorem dX6_size_3 : decode cX6_size 3 = .ok (.invokevirtual 61, 3) := by decide +kernel
theorem dX6_size_6 : decode cX6_size 6 = .ok (.ifCond .ne 5, 3) := by decide +kernel
theorem dX6_size_9 : decode cX6_size 9 = .ok (.iconst 0, 1) := by decide +kernel
theorem dX6_size_10 : decode cX6_size 10 = .ok (.ireturn, 1) := by decide +kernel
theorem dX6_size_11 : decode cX6_size 11 = .ok (.aload_n 0, 1) := by decide +kernel
theorem dX6_size_12 : decode cX6_size 12 = .ok (.getfield 7, 3) := by decide +kernel
theorem dX6_size_15 : decode cX6_size 15 = .ok (.iload_n 1, 1) := by decide +kernel
theorem dX6_size_16 : decode cX6_size 16 = .ok (.iaload, 1) := by decide +kernel
theorem dX6_size_17 : decode cX6_size 17 = .ok (.istore_n 2, 1) := by decide +kernel
theorem dX6_size_18 : decode cX6_size 18 = .ok (.aload_n 0, 1) := by decide +kernel
theorem dX6_size_19 : decode cX6_size 19 = .ok (.iload_n 2, 1) := by decide +kernel
theorem dX6_size_20 : decode cX6_size 20 = .ok (.ifCond .lt 7, 3) := by decide +kernel
theorem dX6_size_23 : decode cX6_size 23 = .ok (.iconst 1, 1) := by decide +kernel
theorem dX6_size_24 : decode cX6_size 24 = .ok (.goto 4, 3) := by decide +kernel
theorem dX6_size_27 : decode cX6_size 27 = .ok (.iconst 0, 1) := by decide +kernel
theorem dX6_size_28 : decode cX6_size 28 = .ok (.iconst 2, 1) := by decide +kernel
theorem dX6_size_29 : decode cX6_size 29 = .ok (.invokevirtual 44, 3) := by decide +kernel
theorem dX6_size_32 : decode cX6_size 32 = .ok (.ifCond .eq 27, 3) := by decide +kernel
theorem dX6_size_35 : decode cX6_size 35 = .ok (.aload_n 0, 1) := by decide +kernel
theorem dX6_size_36 : decode cX6_size 36 = .ok (.aload_n 0, 1) := by decide +kernel
theorem dX6_size_37 : decode cX6_size 37 = .ok (.getfield 13, 3) := by decide +kernel
theorem dX6_size_40 : decode cX6_size 40 = .ok (.iload_n 2, 1) := by decide +kernel
theorem dX6_size_41 : decode cX6_size 41 = .ok (.iaload, 1) := by decide +kernel
theorem dX6_size_42 : decode cX6_size 42 = .ok (.bipush 10, 2) := by decide +kernel
theorem dX6_size_44 : decode cX6_size 44 = .ok (.if_icmp .eq 7, 3) := by decide +kernel
theorem dX6_size_47 : decode cX6_size 47 = .ok (.iconst 1, 1) := by decide +kernel
theorem dX6_size_48 : decode cX6_size 48 = .ok (.goto 4, 3) := by decide +kernel
theorem dX6_size_51 : decode cX6_size 51 = .ok (.iconst 0, 1) := by decide +kernel
theorem dX6_size_52 : decode cX6_size 52 = .ok (.iconst 3, 1) := by decide +kernel
theorem dX6_size_53 : decode cX6_size 53 = .ok (.invokevirtual 44, 3) := by decide +kernel
theorem dX6_size_56 : decode cX6_size 56 = .ok (.ifCond .ne 5, 3) := by decide +kernel
theorem dX6_size_59 : decode cX6_size 59 = .ok (.iconst 0, 1) := by decide +kernel
theorem dX6_size_60 : decode cX6_size 60 = .ok (.ireturn, 1) := by decide +kernel
theorem dX6_size_61 : decode cX6_size 61 = .ok (.iconst 0, 1) := by decide +kernel
theorem dX6_size_62 : decode cX6_size 62 = .ok (.istore_n 3, 1) := by decide +kernel
theorem dX6_size_63 : decode cX6_size 63 = .ok (.iload_n 2, 1) := by decide +kernel
theorem dX6_size_64 : decode cX6_size 64 = .ok (.istore 4, 2) := by decide +kernel
theorem dX6_size_66 : decode cX6_size 66 = .ok (.aload_n 0, 1) := by decide +kernel
theorem dX6_size_67 : decode cX6_size 67 = .ok (.getfield 13, 3) := by decide +kernel
theorem dX6_size_70 : decode cX6_size 70 = .ok (.iload 4, 2) := by decide +kernel
theorem dX6_size_72 : decode cX6_size 72 = .ok (.iaload, 1) := by decide +kernel
theorem dX6_size_73 : decode cX6_size 73 = .ok (.bipush 11, 2) := by decide +kernel
theorem dX6_size_75 : decode cX6_size 75 = .ok (.if_icmp .ne 25, 3) := by decide +kernel
theorem dX6_size_78 : decode cX6_size 78 = .ok (.iload_n 3, 1) := by decide +kernel
theorem dX6_size_79 : decode cX6_size 79 = .ok (.aload_n 0, 1) := by decide +kernel
theorem dX6_size_80 : decode cX6_size 80 = .ok (.getfield 25, 3) := by decide +kernel
theorem dX6_size_83 : decode cX6_size 83 = .ok (.iload 4, 2) := by decide +kernel
theorem dX6_size_85 : decode cX6_size 85 = .ok (.iaload, 1) := by decide +kernel
theorem dX6_size_86 : decode cX6_size 86 = .ok (.iadd, 1) := by decide +kernel
theorem dX6_size_87 : decode cX6_size 87 = .ok (.istore_n 3, 1) := by decide +kernel
theorem dX6_size_88 : decode cX6_size 88 = .ok (.aload_n 0, 1) := by decide +kernel
theorem dX6_size_89 : decode cX6_size 89 = .ok (.getfield 22, 3) := by decide +kernel
theorem dX6_size_92 : decode cX6_size 92 = .ok (.iload 4, 2) := by decide +kernel
theorem dX6_size_94 : decode cX6_size 94 = .ok (.iaload, 1) := by decide +kernel
theorem dX6_size_95 : decode cX6_size 95 = .ok (.istore 4, 2) := by decide +kernel
theorem dX6_size_97 : decode cX6_size 97 = .ok (.goto (-31), 3) := by decide +kernel
theorem dX6_size_100 : decode cX6_size 100 = .ok (.aload_n 0, 1) := by decide +kernel
theorem dX6_size_101 : decode cX6_size 101 = .ok (.aload_n 0, 1) := by decide +kernel
theorem dX6_size_102 : decode cX6_size 102 = .ok (.getfield 13, 3) := by decide +kernel
theorem dX6_size_105 : decode cX6_size 105 = .ok (.iload 4, 2) := by decide +kernel
theorem dX6_size_107 : decode cX6_size 107 = .ok (.iaload, 1) := by decide +kernel
theorem dX6_size_108 : decode cX6_size 108 = .ok (.bipush 9, 2) := by decide +kernel
theorem dX6_size_110 : decode cX6_size 110 = .ok (.if_icmp .eq 16, 3) := by decide +kernel
theorem dX6_size_113 : decode cX6_size 113 = .ok (.aload_n 0, 1) := by decide +kernel
theorem dX6_size_114 : decode cX6_size 114 = .ok (.getfield 32, 3) := by decide +kernel
theorem dX6_size_117 : decode cX6_size 117 = .ok (.bipush 6, 2) := by decide +kernel
theorem dX6_size_119 : decode cX6_size 119 = .ok (.iload 4, 2) := by decide +kernel
theorem dX6_size_121 : decode cX6_size 121 = .ok (.imul, 1) := by decide +kernel
theorem dX6_size_122 : decode cX6_size 122 = .ok (.baload, 1) := by decide +kernel
theorem dX6_size_123 : decode cX6_size 123 = .ok (.ifCond .ne 7, 3) := by decide +kernel
theorem dX6_size_126 : decode cX6_size 126 = .ok (.iconst 1, 1) := by decide +kernel
theorem dX6_size_127 : decode cX6_size 127 = .ok (.goto 4, 3) := by decide +kernel
theorem dX6_size_130 : decode cX6_size 130 = .ok (.iconst 0, 1) := by decide +kernel
theorem dX6_size_131 : decode cX6_size 131 = .ok (.iconst 2, 1) := by decide +kernel
theorem dX6_size_132 : decode cX6_size 132 = .ok (.invokevirtual 44, 3) := by decide +kernel
theorem dX6_size_135 : decode cX6_size 135 = .ok (.ifCond .ne 5, 3) := by decide +kernel
theorem dX6_size_138 : decode cX6_size 138 = .ok (.iconst 0, 1) := by decide +kernel
theorem dX6_size_139 : decode cX6_size 139 = .ok (.ireturn, 1) := by decide +kernel
theorem dX6_size_140 : decode cX6_size 140 = .ok (.aload_n 0, 1) := by decide +kernel
theorem dX6_size_141 : decode cX6_size 141 = .ok (.getfield 16, 3) := by decide +kernel
theorem dX6_size_144 : decode cX6_size 144 = .ok (.iload 4, 2) := by decide +kernel
theorem dX6_size_146 : decode cX6_size 146 = .ok (.iaload, 1) := by decide +kernel
theorem dX6_size_147 : decode cX6_size 147 = .ok (.iload_n 3, 1) := by decide +kernel
theorem dX6_size_148 : decode cX6_size 148 = .ok (.isub, 1) := by decide +kernel
theorem dX6_size_149 : decode cX6_size 149 = .ok (.ireturn, 1) := by decide +kernel
theorem dX6_find_0 : decode cX6_find 0 = .ok (.iload_n 1, 1) := by decide +kernel
theorem dX6_find_1 : decode cX6_find 1 = .ok (.istore_n 3, 1) := by decide +kernel
theorem dX6_find_2 : decode cX6_find 2 = .ok (.aload_n 0, 1) := by decide +kernel
theorem dX6_find_3 : decode cX6_find 3 = .ok (.iload_n 2, 1) := by decide +kernel
theorem dX6_find_4 : decode cX6_find 4 = .ok (.putfield 68, 3) := by decide +kernel
theorem dX6_find_7 : decode cX6_find 7 = .ok (.aload_n 0, 1) := by decide +kernel
theorem dX6_find_8 : decode cX6_find 8 = .ok (.getfield 13, 3) := by decide +kernel
theorem dX6_find_11 : decode cX6_find 11 = .ok (.iload_n 3, 1) := by decide +kernel
theorem dX6_find_12 : decode cX6_find 12 = .ok (.iaload, 1) := by decide +kernel
theorem dX6_find_13 : decode cX6_find 13 = .ok (.bipush 11, 2) := by decide +kernel
theorem dX6_find_15 : decode cX6_find 15 = .ok (.if_icmp .ne 28, 3) := by decide +kernel
theorem dX6_find_18 : decode cX6_find 18 = .ok (.aload_n 0, 1) := by decide +kernel
theorem dX6_find_19 : decode cX6_find 19 = .ok (.dup, 1) := by decide +kernel
theorem dX6_find_20 : decode cX6_find 20 = .ok (.getfield 68, 3) := by decide +kernel
theorem dX6_find_23 : decode cX6_find 23 = .ok (.aload_n 0, 1) := by decide +kernel
theorem dX6_find_24 : decode cX6_find 24 = .ok (.getfield 25, 3) := by decide +kernel
theorem dX6_find_27 : decode cX6_find 27 = .ok (.iload_n 3, 1) := by decide +kernel
theorem dX6_find_28 : decode cX6_find 28 = .ok (.iaload, 1) := by decide +kernel
theorem dX6_find_29 : decode cX6_find 29 = .ok (.iadd, 1) := by decide +kernel
theorem dX6_find_30 : decode cX6_find 30 = .ok (.putfield 68, 3) := by decide +kernel
theorem dX6_find_33 : decode cX6_find 33 = .ok (.aload_n 0, 1) := by decide +kernel
theorem dX6_find_34 : decode cX6_find 34 = .ok (.getfield 22, 3) := by decide +kernel
theorem dX6_find_37 : decode cX6_find 37 = .ok (.iload_n 3, 1) := by decide +kernel
theorem dX6_find_38 : decode cX6_find 38 = .ok (.iaload, 1) := by decide +kernel
theorem dX6_find_39 : decode cX6_find 39 = .ok (.istore_n 3, 1) := by decide +kernel
theorem dX6_find_40 : decode cX6_find 40 = .ok (.goto (-33), 3) := by decide +kernel
theorem dX6_find_43 : decode cX6_find 43 = .ok (.aload_n 0, 1) := by decide +kernel
theorem dX6_find_44 : decode cX6_find 44 = .ok (.iload_n 3, 1) := by decide +kernel
theorem dX6_find_45 : decode cX6_find 45 = .ok (.putfield 71, 3) := by decide +kernel
theorem dX6_find_48 : decode cX6_find 48 = .ok (.aload_n 0, 1) := by decide +kernel
theorem dX6_find_49 : decode cX6_find 49 = .ok (.getfield 32, 3) := by decide +kernel
theorem dX6_find_52 : decode cX6_find 52 = .ok (.bipush 6, 2) := by decide +kernel
theorem dX6_find_54 : decode cX6_find 54 = .ok (.iload_n 3, 1) := by decide +kernel
theorem dX6_find_55 : decode cX6_find 55 = .ok (.imul, 1) := by decide +kernel
theorem dX6_find_56 : decode cX6_find 56 = .ok (.baload, 1) := by decide +kernel
theorem dX6_find_57 : decode cX6_find 57 = .ok (.ifCond .eq 7, 3) := by decide +kernel
theorem dX6_find_60 : decode cX6_find 60 = .ok (.iconst 2, 1) := by decide +kernel
theorem dX6_find_61 : decode cX6_find 61 = .ok (.goto 27, 3) := by decide +kernel
theorem dX6_find_64 : decode cX6_find 64 = .ok (.aload_n 0, 1) := by decide +kernel
theorem dX6_find_65 : decode cX6_find 65 = .ok (.getfield 68, 3) := by decide +kernel
theorem dX6_find_68 : decode cX6_find 68 = .ok (.iconst 0, 1) := by decide +kernel
theorem dX6_find_69 : decode cX6_find 69 = .ok (.aload_n 0, 1) := by decide +kernel
theorem dX6_find_70 : decode cX6_find 70 = .ok (.getfield 16, 3) := by decide +kernel
theorem dX6_find_73 : decode cX6_find 73 = .ok (.iload_n 3, 1) := by decide +kernel
theorem dX6_find_74 : decode cX6_find 74 = .ok (.iaload, 1) := by decide +kernel
theorem dX6_find_75 : decode cX6_find 75 = .ok (.iconst 1, 1) := by decide +kernel
theorem dX6_find_76 : decode cX6_find 76 = .ok (.isub, 1) := by decide +kernel
theorem dX6_find_77 : decode cX6_find 77 = .ok (.invokestatic 40, 3) := by decide +kernel
theorem dX6_find_80 : decode cX6_find 80 = .ok (.ifCond .eq 7, 3) := by decide +kernel
theorem dX6_find_83 : decode cX6_find 83 = .ok (.iconst 0, 1) := by decide +kernel
theorem dX6_find_84 : decode cX6_find 84 = .ok (.goto 4, 3) := by decide +kernel
theorem dX6_find_87 : decode cX6_find 87 = .ok (.iconst 4, 1) := by decide +kernel
theorem dX6_find_88 : decode cX6_find 88 = .ok (.ireturn, 1) := by decide +kernel
theorem dX6_fit_0 : decode cX6_fit 0 = .ok (.iload_n 0, 1) := by decide +kernel
theorem dX6_fit_1 : decode cX6_fit 1 = .ok (.ifCond .ne 15, 3) := by decide +kernel
theorem dX6_fit_4 : decode cX6_fit 4 = .ok (.lload_n 1, 1) := by decide +kernel
theorem dX6_fit_5 : decode cX6_fit 5 = .ok (.lconst 0, 1) := by decide +kernel
theorem dX6_fit_6 : decode cX6_fit 6 = .ok (.lcmp, 1) := by decide +kernel
theorem dX6_fit_7 : decode cX6_fit 7 = .ok (.ifCond .ne 7, 3) := by decide +kernel
theorem dX6_fit_10 : decode cX6_fit 10 = .ok (.lconst 0, 1) := by decide +kernel
theorem dX6_fit_11 : decode cX6_fit 11 = .ok (.goto 4, 3) := by decide +kernel
theorem dX6_fit_14 : decode cX6_fit 14 = .ok (.lconst 1, 1) := by decide +kernel
theorem dX6_fit_15 : decode cX6_fit 15 = .ok (.lreturn, 1) := by decide +kernel
theorem dX6_fit_16 : decode cX6_fit 16 = .ok (.iload_n 0, 1) := by decide +kernel
theorem dX6_fit_17 : decode cX6_fit 17 = .ok (.iconst 1, 1) := by decide +kernel
theorem dX6_fit_18 : decode cX6_fit 18 = .ok (.if_icmp .ne 8, 3) := by decide +kernel
theorem dX6_fit_21 : decode cX6_fit 21 = .ok (.lload_n 1, 1) := by decide +kernel
theorem dX6_fit_22 : decode cX6_fit 22 = .ok (.l2i, 1) := by decide +kernel
theorem dX6_fit_23 : decode cX6_fit 23 = .ok (.i2b, 1) := by decide +kernel
theorem dX6_fit_24 : decode cX6_fit 24 = .ok (.i2l, 1) := by decide +kernel
theorem dX6_fit_25 : decode cX6_fit 25 = .ok (.lreturn, 1) := by decide +kernel
theorem dX6_fit_26 : decode cX6_fit 26 = .ok (.iload_n 0, 1) := by decide +kernel
theorem dX6_fit_27 : decode cX6_fit 27 = .ok (.iconst 2, 1) := by decide +kernel
theorem dX6_fit_28 : decode cX6_fit 28 = .ok (.if_icmp .ne 8, 3) := by decide +kernel
theorem dX6_fit_31 : decode cX6_fit 31 = .ok (.lload_n 1, 1) := by decide +kernel
theorem dX6_fit_32 : decode cX6_fit 32 = .ok (.l2i, 1) := by decide +kernel
theorem dX6_fit_33 : decode cX6_fit 33 = .ok (.i2s, 1) := by decide +kernel
theorem dX6_fit_34 : decode cX6_fit 34 = .ok (.i2l, 1) := by decide +kernel
theorem dX6_fit_35 : decode cX6_fit 35 = .ok (.lreturn, 1) := by decide +kernel
theorem dX6_fit_36 : decode cX6_fit 36 = .ok (.iload_n 0, 1) := by decide +kernel
theorem dX6_fit_37 : decode cX6_fit 37 = .ok (.iconst 3, 1) := by decide +kernel
theorem dX6_fit_38 : decode cX6_fit 38 = .ok (.if_icmp .ne 9, 3) := by decide +kernel
theorem dX6_fit_41 : decode cX6_fit 41 = .ok (.lload_n 1, 1) := by decide +kernel
theorem dX6_fit_42 : decode cX6_fit 42 = .ok (.ldc2_w 74, 3) := by decide +kernel
theorem dX6_fit_45 : decode cX6_fit 45 = .ok (.land, 1) := by decide +kernel
theorem dX6_fit_46 : decode cX6_fit 46 = .ok (.lreturn, 1) := by decide +kernel
theorem dX6_fit_47 : decode cX6_fit 47 = .ok (.iload_n 0, 1) := by decide +kernel
theorem dX6_fit_48 : decode cX6_fit 48 = .ok (.iconst 4, 1) := by decide +kernel
theorem dX6_fit_49 : decode cX6_fit 49 = .ok (.if_icmp .ne 7, 3) := by decide +kernel
theorem dX6_fit_52 : decode cX6_fit 52 = .ok (.lload_n 1, 1) := by decide +kernel
theorem dX6_fit_53 : decode cX6_fit 53 = .ok (.l2i, 1) := by decide +kernel
theorem dX6_fit_54 : decode cX6_fit 54 = .ok (.i2l, 1) := by decide +kernel
theorem dX6_fit_55 : decode cX6_fit 55 = .ok (.lreturn, 1) := by decide +kernel
theorem dX6_fit_56 : decode cX6_fit 56 = .ok (.iload_n 0, 1) := by decide +kernel
theorem dX6_fit_57 : decode cX6_fit 57 = .ok (.bipush 6, 2) := by decide +kernel
theorem dX6_fit_59 : decode cX6_fit 59 = .ok (.if_icmp .ne 7, 3) := by decide +kernel
theorem dX6_fit_62 : decode cX6_fit 62 = .ok (.lload_n 1, 1) := by decide +kernel
theorem dX6_fit_63 : decode cX6_fit 63 = .ok (.l2f, 1) := by decide +kernel
theorem dX6_fit_64 : decode cX6_fit 64 = .ok (.f2l, 1) := by decide +kernel
theorem dX6_fit_65 : decode cX6_fit 65 = .ok (.lreturn, 1) := by decide +kernel
theorem dX6_fit_66 : decode cX6_fit 66 = .ok (.iload_n 0, 1) := by decide +kernel
theorem dX6_fit_67 : decode cX6_fit 67 = .ok (.bipush 7, 2) := by decide +kernel
theorem dX6_fit_69 : decode cX6_fit 69 = .ok (.if_icmp .ne 7, 3) := by decide +kernel
theorem dX6_fit_72 : decode cX6_fit 72 = .ok (.lload_n 1, 1) := by decide +kernel
theorem dX6_fit_73 : decode cX6_fit 73 = .ok (.l2d, 1) := by decide +kernel
theorem dX6_fit_74 : decode cX6_fit 74 = .ok (.d2l, 1) := by decide +kernel
theorem dX6_fit_75 : decode cX6_fit 75 = .ok (.lreturn, 1) := by decide +kernel
theorem dX6_fit_76 : decode cX6_fit 76 = .ok (.lload_n 1, 1) := by decide +kernel
theorem dX6_fit_77 : decode cX6_fit 77 = .ok (.lreturn, 1) := by decide +kernel
theorem dX6_here_0 : decode cX6_here 0 = .ok (.aload_n 0, 1) := by decide +kernel
theorem dX6_here_1 : decode cX6_here 1 = .ok (.getfield 28, 3) := by decide +kernel
theorem dX6_here_4 : decode cX6_here 4 = .ok (.bipush 24, 2) := by decide +kernel
theorem dX6_here_6 : decode cX6_here 6 = .ok (.aload_n 0, 1) := by decide +kernel
theorem dX6_here_7 : decode cX6_here 7 = .ok (.getfield 71, 3) := by decide +kernel
theorem dX6_here_10 : decode cX6_here 10 = .ok (.imul, 1) := by decide +kernel
theorem dX6_here_11 : decode cX6_here 11 = .ok (.aload_n 0, 1) := by decide +kernel
theorem dX6_here_12 : decode cX6_here 12 = .ok (.getfield 68, 3) := by decide +kernel
theorem dX6_here_15 : decode cX6_here 15 = .ok (.iadd, 1) := by decide +kernel
theorem dX6_here_16 : decode cX6_here 16 = .ok (.laload, 1) := by decide +kernel
theorem dX6_here_17 : decode cX6_here 17 = .ok (.lreturn, 1) := by decide +kernel
theorem dX6_set_0 : decode cX6_set 0 = .ok (.aload_n 0, 1) := by decide +kernel
theorem dX6_set_1 : decode cX6_set 1 = .ok (.getfield 28, 3) := by decide +kernel
theorem dX6_set_4 : decode cX6_set 4 = .ok (.bipush 24, 2) := by decide +kernel
theorem dX6_set_6 : decode cX6_set 6 = .ok (.aload_n 0, 1) := by decide +kernel
theorem dX6_set_7 : decode cX6_set 7 = .ok (.getfield 71, 3) := by decide +kernel
theorem dX6_set_10 : decode cX6_set 10 = .ok (.imul, 1) := by decide +kernel
theorem dX6_set_11 : decode cX6_set 11 = .ok (.aload_n 0, 1) := by decide +kernel
theorem dX6_set_12 : decode cX6_set 12 = .ok (.getfield 68, 3) := by decide +kernel
theorem dX6_set_15 : decode cX6_set 15 = .ok (.iadd, 1) := by decide +kernel
theorem dX6_set_16 : decode cX6_set 16 = .ok (.aload_n 0, 1) := by decide +kernel
theorem dX6_set_17 : decode cX6_set 17 = .ok (.getfield 13, 3) := by decide +kernel
theorem dX6_set_20 : decode cX6_set 20 = .ok (.aload_n 0, 1) := by decide +kernel
theorem dX6_set_21 : decode cX6_set 21 = .ok (.getfield 71, 3) := by decide +kernel
theorem dX6_set_24 : decode cX6_set 24 = .ok (.iaload, 1) := by decide +kernel
theorem dX6_set_25 : decode cX6_set 25 = .ok (.lload_n 1, 1) := by decide +kernel
theorem dX6_set_26 : decode cX6_set 26 = .ok (.invokestatic 76, 3) := by decide +kernel
theorem dX6_set_29 : decode cX6_set 29 = .ok (.lastore, 1) := by decide +kernel
theorem dX6_set_30 : decode cX6_set 30 = .ok (.aload_n 0, 1) := by decide +kernel
theorem dX6_set_31 : decode cX6_set 31 = .ok (.invokevirtual 80, 3) := by decide +kernel
theorem dX6_set_34 : decode cX6_set 34 = .ok (.lreturn, 1) := by decide +kernel
theorem dX6_reach_0 : decode cX6_reach 0 = .ok (.aload_n 0, 1) := by decide +kernel
theorem dX6_reach_1 : decode cX6_reach 1 = .ok (.getfield 7, 3) := by decide +kernel
theorem dX6_reach_4 : decode cX6_reach 4 = .ok (.iload_n 1, 1) := by decide +kernel
theorem dX6_reach_5 : decode cX6_reach 5 = .ok (.iaload, 1) := by decide +kernel
theorem dX6_reach_6 : decode cX6_reach 6 = .ok (.istore 4, 2) := by decide +kernel
theorem dX6_reach_8 : decode cX6_reach 8 = .ok (.aload_n 0, 1) := by decide +kernel
theorem dX6_reach_9 : decode cX6_reach 9 = .ok (.iload 4, 2) := by decide +kernel
theorem dX6_reach_11 : decode cX6_reach 11 = .ok (.ifCond .lt 7, 3) := by decide +kernel
theorem dX6_reach_14 : decode cX6_reach 14 = .ok (.iconst 1, 1) := by decide +kernel
theorem dX6_reach_15 : decode cX6_reach 15 = .ok (.goto 4, 3) := by decide +kernel
theorem dX6_reach_18 : decode cX6_reach 18 = .ok (.iconst 0, 1) := by decide +kernel
theorem dX6_reach_19 : decode cX6_reach 19 = .ok (.iconst 2, 1) := by decide +kernel
theorem dX6_reach_20 : decode cX6_reach 20 = .ok (.invokevirtual 44, 3) := by decide +kernel
theorem dX6_reach_23 : decode cX6_reach 23 = .ok (.ifCond .eq 26, 3) := by decide +kernel
theorem dX6_reach_26 : decode cX6_reach 26 = .ok (.aload_n 0, 1) := by decide +kernel
theorem dX6_reach_27 : decode cX6_reach 27 = .ok (.aload_n 0, 1) := by decide +kernel
theorem dX6_reach_28 : decode cX6_reach 28 = .ok (.iload 4, 2) := by decide +kernel
theorem dX6_reach_30 : decode cX6_reach 30 = .ok (.invokevirtual 84, 3) := by decide +kernel
theorem dX6_reach_33 : decode cX6_reach 33 = .ok (.iload_n 3, 1) := by decide +kernel
theorem dX6_reach_34 : decode cX6_reach 34 = .ok (.if_icmp .gt 7, 3) := by decide +kernel
theorem dX6_reach_37 : decode cX6_reach 37 = .ok (.iconst 1, 1) := by decide +kernel
theorem dX6_reach_38 : decode cX6_reach 38 = .ok (.goto 4, 3) := by decide +kernel
theorem dX6_reach_41 : decode cX6_reach 41 = .ok (.iconst 0, 1) := by decide +kernel
theorem dX6_reach_42 : decode cX6_reach 42 = .ok (.iconst 3, 1) := by decide +kernel
theorem dX6_reach_43 : decode cX6_reach 43 = .ok (.invokevirtual 44, 3) := by decide +kernel
theorem dX6_reach_46 : decode cX6_reach 46 = .ok (.ifCond .ne 5, 3) := by decide +kernel
theorem dX6_reach_49 : decode cX6_reach 49 = .ok (.iconst 0, 1) := by decide +kernel
theorem dX6_reach_50 : decode cX6_reach 50 = .ok (.ireturn, 1) := by decide +kernel
theorem dX6_reach_51 : decode cX6_reach 51 = .ok (.aload_n 0, 1) := by decide +kernel
theorem dX6_reach_52 : decode cX6_reach 52 = .ok (.aload_n 0, 1) := by decide +kernel
theorem dX6_reach_53 : decode cX6_reach 53 = .ok (.iload 4, 2) := by decide +kernel
theorem dX6_reach_55 : decode cX6_reach 55 = .ok (.iload_n 2, 1) := by decide +kernel
theorem dX6_reach_56 : decode cX6_reach 56 = .ok (.invokevirtual 87, 3) := by decide +kernel
theorem dX6_reach_59 : decode cX6_reach 59 = .ok (.putfield 36, 3) := by decide +kernel
theorem dX6_reach_62 : decode cX6_reach 62 = .ok (.aload_n 0, 1) := by decide +kernel
theorem dX6_reach_63 : decode cX6_reach 63 = .ok (.getfield 36, 3) := by decide +kernel
theorem dX6_reach_66 : decode cX6_reach 66 = .ok (.ifCond .ne 7, 3) := by decide +kernel
theorem dX6_reach_69 : decode cX6_reach 69 = .ok (.iconst 1, 1) := by decide +kernel
theorem dX6_reach_70 : decode cX6_reach 70 = .ok (.goto 4, 3) := by decide +kernel
theorem dX6_reach_73 : decode cX6_reach 73 = .ok (.iconst 0, 1) := by decide +kernel
theorem dX6_reach_74 : decode cX6_reach 74 = .ok (.ireturn, 1) := by decide +kernel
theorem dX6_take_0 : decode cX6_take 0 = .ok (.aload_n 0, 1) := by decide +kernel
end
section
theorem dX6_take_1 : decode cX6_take 1 = .ok (.iload_n 1, 1) := by decide +kernel
theorem dX6_take_2 : decode cX6_take 2 = .ok (.iconst 0, 1) := by decide +kernel
theorem dX6_take_3 : decode cX6_take 3 = .ok (.invokevirtual 61, 3) := by decide +kernel
theorem dX6_take_6 : decode cX6_take 6 = .ok (.ifCond .eq 14, 3) := by decide +kernel
theorem dX6_take_9 : decode cX6_take 9 = .ok (.aload_n 0, 1) := by decide +kernel
theorem dX6_take_10 : decode cX6_take 10 = .ok (.iload_n 1, 1) := by decide +kernel
theorem dX6_take_11 : decode cX6_take 11 = .ok (.iload_n 2, 1) := by decide +kernel
theorem dX6_take_12 : decode cX6_take 12 = .ok (.bipush 7, 2) := by decide +kernel
theorem dX6_take_14 : decode cX6_take 14 = .ok (.invokevirtual 91, 3) := by decide +kernel
theorem dX6_take_17 : decode cX6_take 17 = .ok (.ifCond .ne 5, 3) := by decide +kernel
theorem dX6_take_20 : decode cX6_take 20 = .ok (.lconst 0, 1) := by decide +kernel
theorem dX6_take_21 : decode cX6_take 21 = .ok (.lreturn, 1) := by decide +kernel
theorem dX6_take_22 : decode cX6_take 22 = .ok (.aload_n 0, 1) := by decide +kernel
theorem dX6_take_23 : decode cX6_take 23 = .ok (.invokevirtual 80, 3) := by decide +kernel
theorem dX6_take_26 : decode cX6_take 26 = .ok (.lreturn, 1) := by decide +kernel
theorem dX6_put_0 : decode cX6_put 0 = .ok (.aload_n 0, 1) := by decide +kernel
theorem dX6_put_1 : decode cX6_put 1 = .ok (.iload_n 1, 1) := by decide +kernel
theorem dX6_put_2 : decode cX6_put 2 = .ok (.iconst 0, 1) := by decide +kernel
theorem dX6_put_3 : decode cX6_put 3 = .ok (.invokevirtual 61, 3) := by decide +kernel
theorem dX6_put_6 : decode cX6_put 6 = .ok (.ifCond .eq 14, 3) := by decide +kernel
theorem dX6_put_9 : decode cX6_put 9 = .ok (.aload_n 0, 1) := by decide +kernel
theorem dX6_put_10 : decode cX6_put 10 = .ok (.iload_n 1, 1) := by decide +kernel
theorem dX6_put_11 : decode cX6_put 11 = .ok (.iload_n 2, 1) := by decide +kernel
theorem dX6_put_12 : decode cX6_put 12 = .ok (.bipush 7, 2) := by decide +kernel
theorem dX6_put_14 : decode cX6_put 14 = .ok (.invokevirtual 91, 3) := by decide +kernel
theorem dX6_put_17 : decode cX6_put 17 = .ok (.ifCond .ne 5, 3) := by decide +kernel
theorem dX6_put_20 : decode cX6_put 20 = .ok (.lconst 0, 1) := by decide +kernel
theorem dX6_put_21 : decode cX6_put 21 = .ok (.lreturn, 1) := by decide +kernel
theorem dX6_put_22 : decode cX6_put 22 = .ok (.aload_n 0, 1) := by decide +kernel
theorem dX6_put_23 : decode cX6_put 23 = .ok (.lload_n 3, 1) := by decide +kernel
theorem dX6_put_24 : decode cX6_put 24 = .ok (.invokevirtual 94, 3) := by decide +kernel
theorem dX6_put_27 : decode cX6_put 27 = .ok (.lreturn, 1) := by decide +kernel
theorem dX6_row_0 : decode cX6_row 0 = .ok (.aload_n 0, 1) := by decide +kernel
theorem dX6_row_1 : decode cX6_row 1 = .ok (.getfield 7, 3) := by decide +kernel
theorem dX6_row_4 : decode cX6_row 4 = .ok (.iload_n 1, 1) := by decide +kernel
theorem dX6_row_5 : decode cX6_row 5 = .ok (.iaload, 1) := by decide +kernel
theorem dX6_row_6 : decode cX6_row 6 = .ok (.istore_n 3, 1) := by decide +kernel
theorem dX6_row_7 : decode cX6_row 7 = .ok (.aload_n 0, 1) := by decide +kernel
theorem dX6_row_8 : decode cX6_row 8 = .ok (.iload_n 3, 1) := by decide +kernel
theorem dX6_row_9 : decode cX6_row 9 = .ok (.ifCond .lt 14, 3) := by decide +kernel
theorem dX6_row_12 : decode cX6_row 12 = .ok (.aload_n 0, 1) := by decide +kernel
theorem dX6_row_13 : decode cX6_row 13 = .ok (.getfield 13, 3) := by decide +kernel
theorem dX6_row_16 : decode cX6_row 16 = .ok (.iload_n 3, 1) := by decide +kernel
theorem dX6_row_17 : decode cX6_row 17 = .ok (.iaload, 1) := by decide +kernel
theorem dX6_row_18 : decode cX6_row 18 = .ok (.bipush 9, 2) := by decide +kernel
theorem dX6_row_20 : decode cX6_row 20 = .ok (.if_icmp .ne 7, 3) := by decide +kernel
theorem dX6_row_23 : decode cX6_row 23 = .ok (.iconst 1, 1) := by decide +kernel
theorem dX6_row_24 : decode cX6_row 24 = .ok (.goto 4, 3) := by decide +kernel
theorem dX6_row_27 : decode cX6_row 27 = .ok (.iconst 0, 1) := by decide +kernel
theorem dX6_row_28 : decode cX6_row 28 = .ok (.iconst 2, 1) := by decide +kernel
theorem dX6_row_29 : decode cX6_row 29 = .ok (.invokevirtual 44, 3) := by decide +kernel
theorem dX6_row_32 : decode cX6_row 32 = .ok (.ifCond .eq 45, 3) := by decide +kernel
theorem dX6_row_35 : decode cX6_row 35 = .ok (.aload_n 0, 1) := by decide +kernel
theorem dX6_row_36 : decode cX6_row 36 = .ok (.iload_n 3, 1) := by decide +kernel
theorem dX6_row_37 : decode cX6_row 37 = .ok (.ifCond .lt 7, 3) := by decide +kernel
theorem dX6_row_40 : decode cX6_row 40 = .ok (.iconst 1, 1) := by decide +kernel
theorem dX6_row_41 : decode cX6_row 41 = .ok (.goto 4, 3) := by decide +kernel
theorem dX6_row_44 : decode cX6_row 44 = .ok (.iconst 0, 1) := by decide +kernel
theorem dX6_row_45 : decode cX6_row 45 = .ok (.iconst 3, 1) := by decide +kernel
theorem dX6_row_46 : decode cX6_row 46 = .ok (.invokevirtual 44, 3) := by decide +kernel
theorem dX6_row_49 : decode cX6_row 49 = .ok (.ifCond .eq 28, 3) := by decide +kernel
theorem dX6_row_52 : decode cX6_row 52 = .ok (.aload_n 0, 1) := by decide +kernel
theorem dX6_row_53 : decode cX6_row 53 = .ok (.iload_n 2, 1) := by decide +kernel
theorem dX6_row_54 : decode cX6_row 54 = .ok (.iconst 0, 1) := by decide +kernel
theorem dX6_row_55 : decode cX6_row 55 = .ok (.aload_n 0, 1) := by decide +kernel
theorem dX6_row_56 : decode cX6_row 56 = .ok (.getfield 16, 3) := by decide +kernel
theorem dX6_row_59 : decode cX6_row 59 = .ok (.iload_n 3, 1) := by decide +kernel
theorem dX6_row_60 : decode cX6_row 60 = .ok (.iaload, 1) := by decide +kernel
theorem dX6_row_61 : decode cX6_row 61 = .ok (.iconst 1, 1) := by decide +kernel
theorem dX6_row_62 : decode cX6_row 62 = .ok (.isub, 1) := by decide +kernel
theorem dX6_row_63 : decode cX6_row 63 = .ok (.invokestatic 40, 3) := by decide +kernel
theorem dX6_row_66 : decode cX6_row 66 = .ok (.iconst 4, 1) := by decide +kernel
theorem dX6_row_67 : decode cX6_row 67 = .ok (.invokevirtual 44, 3) := by decide +kernel
theorem dX6_row_70 : decode cX6_row 70 = .ok (.ifCond .eq 7, 3) := by decide +kernel
theorem dX6_row_73 : decode cX6_row 73 = .ok (.iconst 1, 1) := by decide +kernel
theorem dX6_row_74 : decode cX6_row 74 = .ok (.goto 4, 3) := by decide +kernel
theorem dX6_row_77 : decode cX6_row 77 = .ok (.iconst 0, 1) := by decide +kernel
theorem dX6_row_78 : decode cX6_row 78 = .ok (.ireturn, 1) := by decide +kernel
theorem dX6_column_0 : decode cX6_column 0 = .ok (.aload_n 0, 1) := by decide +kernel
theorem dX6_column_1 : decode cX6_column 1 = .ok (.getfield 7, 3) := by decide +kernel
theorem dX6_column_4 : decode cX6_column 4 = .ok (.iload_n 1, 1) := by decide +kernel
theorem dX6_column_5 : decode cX6_column 5 = .ok (.iaload, 1) := by decide +kernel
theorem dX6_column_6 : decode cX6_column 6 = .ok (.istore 4, 2) := by decide +kernel
theorem dX6_column_8 : decode cX6_column 8 = .ok (.aload_n 0, 1) := by decide +kernel
theorem dX6_column_9 : decode cX6_column 9 = .ok (.iload 4, 2) := by decide +kernel
theorem dX6_column_11 : decode cX6_column 11 = .ok (.putfield 71, 3) := by decide +kernel
theorem dX6_column_14 : decode cX6_column 14 = .ok (.aload_n 0, 1) := by decide +kernel
theorem dX6_column_15 : decode cX6_column 15 = .ok (.aload_n 0, 1) := by decide +kernel
theorem dX6_column_16 : decode cX6_column 16 = .ok (.getfield 19, 3) := by decide +kernel
theorem dX6_column_19 : decode cX6_column 19 = .ok (.iload 4, 2) := by decide +kernel
theorem dX6_column_21 : decode cX6_column 21 = .ok (.iaload, 1) := by decide +kernel
theorem dX6_column_22 : decode cX6_column 22 = .ok (.iload_n 2, 1) := by decide +kernel
theorem dX6_column_23 : decode cX6_column 23 = .ok (.imul, 1) := by decide +kernel
theorem dX6_column_24 : decode cX6_column 24 = .ok (.iload_n 3, 1) := by decide +kernel
theorem dX6_column_25 : decode cX6_column 25 = .ok (.iadd, 1) := by decide +kernel
theorem dX6_column_26 : decode cX6_column 26 = .ok (.putfield 68, 3) := by decide +kernel
theorem dX6_column_29 : decode cX6_column 29 = .ok (.aload_n 0, 1) := by decide +kernel
theorem dX6_column_30 : decode cX6_column 30 = .ok (.aload_n 0, 1) := by decide +kernel
theorem dX6_column_31 : decode cX6_column 31 = .ok (.getfield 32, 3) := by decide +kernel
theorem dX6_column_34 : decode cX6_column 34 = .ok (.bipush 6, 2) := by decide +kernel
theorem dX6_column_36 : decode cX6_column 36 = .ok (.iload 4, 2) := by decide +kernel
theorem dX6_column_38 : decode cX6_column 38 = .ok (.imul, 1) := by decide +kernel
theorem dX6_column_39 : decode cX6_column 39 = .ok (.iload_n 2, 1) := by decide +kernel
theorem dX6_column_40 : decode cX6_column 40 = .ok (.iadd, 1) := by decide +kernel
theorem dX6_column_41 : decode cX6_column 41 = .ok (.baload, 1) := by decide +kernel
theorem dX6_column_42 : decode cX6_column 42 = .ok (.ifCond .ne 7, 3) := by decide +kernel
theorem dX6_column_45 : decode cX6_column 45 = .ok (.iconst 1, 1) := by decide +kernel
theorem dX6_column_46 : decode cX6_column 46 = .ok (.goto 4, 3) := by decide +kernel
theorem dX6_column_49 : decode cX6_column 49 = .ok (.iconst 0, 1) := by decide +kernel
theorem dX6_column_50 : decode cX6_column 50 = .ok (.iconst 3, 1) := by decide +kernel
theorem dX6_column_51 : decode cX6_column 51 = .ok (.invokevirtual 44, 3) := by decide +kernel
theorem dX6_column_54 : decode cX6_column 54 = .ok (.ifCond .eq 29, 3) := by decide +kernel
theorem dX6_column_57 : decode cX6_column 57 = .ok (.aload_n 0, 1) := by decide +kernel
theorem dX6_column_58 : decode cX6_column 58 = .ok (.iload_n 3, 1) := by decide +kernel
theorem dX6_column_59 : decode cX6_column 59 = .ok (.iconst 0, 1) := by decide +kernel
theorem dX6_column_60 : decode cX6_column 60 = .ok (.aload_n 0, 1) := by decide +kernel
theorem dX6_column_61 : decode cX6_column 61 = .ok (.getfield 19, 3) := by decide +kernel
theorem dX6_column_64 : decode cX6_column 64 = .ok (.iload 4, 2) := by decide +kernel
theorem dX6_column_66 : decode cX6_column 66 = .ok (.iaload, 1) := by decide +kernel
theorem dX6_column_67 : decode cX6_column 67 = .ok (.iconst 1, 1) := by decide +kernel
theorem dX6_column_68 : decode cX6_column 68 = .ok (.isub, 1) := by decide +kernel
theorem dX6_column_69 : decode cX6_column 69 = .ok (.invokestatic 40, 3) := by decide +kernel
theorem dX6_column_72 : decode cX6_column 72 = .ok (.iconst 4, 1) := by decide +kernel
theorem dX6_column_73 : decode cX6_column 73 = .ok (.invokevirtual 44, 3) := by decide +kernel
theorem dX6_column_76 : decode cX6_column 76 = .ok (.ifCond .eq 7, 3) := by decide +kernel
theorem dX6_column_79 : decode cX6_column 79 = .ok (.iconst 1, 1) := by decide +kernel
theorem dX6_column_80 : decode cX6_column 80 = .ok (.goto 4, 3) := by decide +kernel
theorem dX6_column_83 : decode cX6_column 83 = .ok (.iconst 0, 1) := by decide +kernel
theorem dX6_column_84 : decode cX6_column 84 = .ok (.ireturn, 1) := by decide +kernel
theorem dX6_cell_0 : decode cX6_cell 0 = .ok (.aload_n 0, 1) := by decide +kernel
theorem dX6_cell_1 : decode cX6_cell 1 = .ok (.iload_n 1, 1) := by decide +kernel
theorem dX6_cell_2 : decode cX6_cell 2 = .ok (.iconst 0, 1) := by decide +kernel
theorem dX6_cell_3 : decode cX6_cell 3 = .ok (.invokevirtual 61, 3) := by decide +kernel
theorem dX6_cell_6 : decode cX6_cell 6 = .ok (.ifCond .eq 22, 3) := by decide +kernel
theorem dX6_cell_9 : decode cX6_cell 9 = .ok (.aload_n 0, 1) := by decide +kernel
theorem dX6_cell_10 : decode cX6_cell 10 = .ok (.iload_n 1, 1) := by decide +kernel
theorem dX6_cell_11 : decode cX6_cell 11 = .ok (.iload_n 2, 1) := by decide +kernel
theorem dX6_cell_12 : decode cX6_cell 12 = .ok (.invokevirtual 98, 3) := by decide +kernel
theorem dX6_cell_15 : decode cX6_cell 15 = .ok (.ifCond .eq 13, 3) := by decide +kernel
theorem dX6_cell_18 : decode cX6_cell 18 = .ok (.aload_n 0, 1) := by decide +kernel
theorem dX6_cell_19 : decode cX6_cell 19 = .ok (.iload_n 1, 1) := by decide +kernel
theorem dX6_cell_20 : decode cX6_cell 20 = .ok (.iload_n 2, 1) := by decide +kernel
theorem dX6_cell_21 : decode cX6_cell 21 = .ok (.iload_n 3, 1) := by decide +kernel
theorem dX6_cell_22 : decode cX6_cell 22 = .ok (.invokevirtual 101, 3) := by decide +kernel
theorem dX6_cell_25 : decode cX6_cell 25 = .ok (.ifCond .ne 5, 3) := by decide +kernel
theorem dX6_cell_28 : decode cX6_cell 28 = .ok (.iconst 0, 1) := by decide +kernel
theorem dX6_cell_29 : decode cX6_cell 29 = .ok (.ireturn, 1) := by decide +kernel
theorem dX6_cell_30 : decode cX6_cell 30 = .ok (.aload_n 0, 1) := by decide +kernel
theorem dX6_cell_31 : decode cX6_cell 31 = .ok (.invokevirtual 80, 3) := by decide +kernel
theorem dX6_cell_34 : decode cX6_cell 34 = .ok (.l2i, 1) := by decide +kernel
theorem dX6_cell_35 : decode cX6_cell 35 = .ok (.ireturn, 1) := by decide +kernel
theorem dX6_setCell_0 : decode cX6_setCell 0 = .ok (.aload_n 0, 1) := by decide +kernel
theorem dX6_setCell_1 : decode cX6_setCell 1 = .ok (.iload_n 1, 1) := by decide +kernel
theorem dX6_setCell_2 : decode cX6_setCell 2 = .ok (.iconst 0, 1) := by decide +kernel
theorem dX6_setCell_3 : decode cX6_setCell 3 = .ok (.invokevirtual 61, 3) := by decide +kernel
theorem dX6_setCell_6 : decode cX6_setCell 6 = .ok (.ifCond .eq 40, 3) := by decide +kernel
theorem dX6_setCell_9 : decode cX6_setCell 9 = .ok (.aload_n 0, 1) := by decide +kernel
theorem dX6_setCell_10 : decode cX6_setCell 10 = .ok (.iload_n 1, 1) := by decide +kernel
theorem dX6_setCell_11 : decode cX6_setCell 11 = .ok (.iload_n 2, 1) := by decide +kernel
theorem dX6_setCell_12 : decode cX6_setCell 12 = .ok (.invokevirtual 98, 3) := by decide +kernel
theorem dX6_setCell_15 : decode cX6_setCell 15 = .ok (.ifCond .eq 31, 3) := by decide +kernel
theorem dX6_setCell_18 : decode cX6_setCell 18 = .ok (.aload_n 0, 1) := by decide +kernel
theorem dX6_setCell_19 : decode cX6_setCell 19 = .ok (.iload 5, 2) := by decide +kernel
theorem dX6_setCell_21 : decode cX6_setCell 21 = .ok (.ifCond .eq 7, 3) := by decide +kernel
theorem dX6_setCell_24 : decode cX6_setCell 24 = .ok (.iconst 1, 1) := by decide +kernel
theorem dX6_setCell_25 : decode cX6_setCell 25 = .ok (.goto 4, 3) := by decide +kernel
theorem dX6_setCell_28 : decode cX6_setCell 28 = .ok (.iconst 0, 1) := by decide +kernel
theorem dX6_setCell_29 : decode cX6_setCell 29 = .ok (.iconst 5, 1) := by decide +kernel
theorem dX6_setCell_30 : decode cX6_setCell 30 = .ok (.invokevirtual 44, 3) := by decide +kernel
theorem dX6_setCell_33 : decode cX6_setCell 33 = .ok (.ifCond .eq 13, 3) := by decide +kernel
theorem dX6_setCell_36 : decode cX6_setCell 36 = .ok (.aload_n 0, 1) := by decide +kernel
theorem dX6_setCell_37 : decode cX6_setCell 37 = .ok (.iload_n 1, 1) := by decide +kernel
theorem dX6_setCell_38 : decode cX6_setCell 38 = .ok (.iload_n 2, 1) := by decide +kernel
theorem dX6_setCell_39 : decode cX6_setCell 39 = .ok (.iload_n 3, 1) := by decide +kernel
theorem dX6_setCell_40 : decode cX6_setCell 40 = .ok (.invokevirtual 101, 3) := by decide +kernel
theorem dX6_setCell_43 : decode cX6_setCell 43 = .ok (.ifCond .ne 4, 3) := by decide +kernel
theorem dX6_setCell_46 : decode cX6_setCell 46 = .ok (.return_, 1) := by decide +kernel
theorem dX6_setCell_47 : decode cX6_setCell 47 = .ok (.aload_n 0, 1) := by decide +kernel
theorem dX6_setCell_48 : decode cX6_setCell 48 = .ok (.getfield 28, 3) := by decide +kernel
theorem dX6_setCell_51 : decode cX6_setCell 51 = .ok (.bipush 24, 2) := by decide +kernel
theorem dX6_setCell_53 : decode cX6_setCell 53 = .ok (.aload_n 0, 1) := by decide +kernel
theorem dX6_setCell_54 : decode cX6_setCell 54 = .ok (.getfield 71, 3) := by decide +kernel
theorem dX6_setCell_57 : decode cX6_setCell 57 = .ok (.imul, 1) := by decide +kernel
theorem dX6_setCell_58 : decode cX6_setCell 58 = .ok (.aload_n 0, 1) := by decide +kernel
theorem dX6_setCell_59 : decode cX6_setCell 59 = .ok (.getfield 68, 3) := by decide +kernel
theorem dX6_setCell_62 : decode cX6_setCell 62 = .ok (.iadd, 1) := by decide +kernel
theorem dX6_setCell_63 : decode cX6_setCell 63 = .ok (.iload 5, 2) := by decide +kernel
theorem dX6_setCell_65 : decode cX6_setCell 65 = .ok (.iconst (-1), 1) := by decide +kernel
theorem dX6_setCell_66 : decode cX6_setCell 66 = .ok (.if_icmp .ne 11, 3) := by decide +kernel
theorem dX6_setCell_69 : decode cX6_setCell 69 = .ok (.iconst 0, 1) := by decide +kernel
theorem dX6_setCell_70 : decode cX6_setCell 70 = .ok (.iload 4, 2) := by decide +kernel
theorem dX6_setCell_72 : decode cX6_setCell 72 = .ok (.isub, 1) := by decide +kernel
theorem dX6_setCell_73 : decode cX6_setCell 73 = .ok (.i2l, 1) := by decide +kernel
theorem dX6_setCell_74 : decode cX6_setCell 74 = .ok (.goto 9, 3) := by decide +kernel
theorem dX6_setCell_77 : decode cX6_setCell 77 = .ok (.iload 4, 2) := by decide +kernel
theorem dX6_setCell_79 : decode cX6_setCell 79 = .ok (.iload 5, 2) := by decide +kernel
theorem dX6_setCell_81 : decode cX6_setCell 81 = .ok (.idiv, 1) := by decide +kernel
theorem dX6_setCell_82 : decode cX6_setCell 82 = .ok (.i2l, 1) := by decide +kernel
theorem dX6_setCell_83 : decode cX6_setCell 83 = .ok (.lastore, 1) := by decide +kernel
theorem dX6_setCell_84 : decode cX6_setCell 84 = .ok (.return_, 1) := by decide +kernel
theorem dX6_reachItem_0 : decode cX6_reachItem 0 = .ok (.aload_n 0, 1) := by decide +kernel
theorem dX6_reachItem_1 : decode cX6_reachItem 1 = .ok (.getfield 7, 3) := by decide +kernel
theorem dX6_reachItem_4 : decode cX6_reachItem 4 = .ok (.iload_n 1, 1) := by decide +kernel
theorem dX6_reachItem_5 : decode cX6_reachItem 5 = .ok (.iaload, 1) := by decide +kernel
theorem dX6_reachItem_6 : decode cX6_reachItem 6 = .ok (.istore_n 3, 1) := by decide +kernel
theorem dX6_reachItem_7 : decode cX6_reachItem 7 = .ok (.aload_n 0, 1) := by decide +kernel
theorem dX6_reachItem_8 : decode cX6_reachItem 8 = .ok (.iload_n 3, 1) := by decide +kernel
theorem dX6_reachItem_9 : decode cX6_reachItem 9 = .ok (.ifCond .lt 7, 3) := by decide +kernel
theorem dX6_reachItem_12 : decode cX6_reachItem 12 = .ok (.iconst 1, 1) := by decide +kernel
theorem dX6_reachItem_13 : decode cX6_reachItem 13 = .ok (.goto 4, 3) := by decide +kernel
theorem dX6_reachItem_16 : decode cX6_reachItem 16 = .ok (.iconst 0, 1) := by decide +kernel
theorem dX6_reachItem_17 : decode cX6_reachItem 17 = .ok (.iconst 2, 1) := by decide +kernel
theorem dX6_reachItem_18 : decode cX6_reachItem 18 = .ok (.invokevirtual 44, 3) := by decide +kernel
theorem dX6_reachItem_21 : decode cX6_reachItem 21 = .ok (.ifCond .eq 26, 3) := by decide +kernel
theorem dX6_reachItem_24 : decode cX6_reachItem 24 = .ok (.aload_n 0, 1) := by decide +kernel
theorem dX6_reachItem_25 : decode cX6_reachItem 25 = .ok (.aload_n 0, 1) := by decide +kernel
theorem dX6_reachItem_26 : decode cX6_reachItem 26 = .ok (.iload_n 3, 1) := by decide +kernel
theorem dX6_reachItem_27 : decode cX6_reachItem 27 = .ok (.invokevirtual 84, 3) := by decide +kernel
theorem dX6_reachItem_30 : decode cX6_reachItem 30 = .ok (.bipush 8, 2) := by decide +kernel
theorem dX6_reachItem_32 : decode cX6_reachItem 32 = .ok (.if_icmp .ne 7, 3) := by decide +kernel
theorem dX6_reachItem_35 : decode cX6_reachItem 35 = .ok (.iconst 1, 1) := by decide +kernel
theorem dX6_reachItem_36 : decode cX6_reachItem 36 = .ok (.goto 4, 3) := by decide +kernel
theorem dX6_reachItem_39 : decode cX6_reachItem 39 = .ok (.iconst 0, 1) := by decide +kernel
theorem dX6_reachItem_40 : decode cX6_reachItem 40 = .ok (.iconst 3, 1) := by decide +kernel
theorem dX6_reachItem_41 : decode cX6_reachItem 41 = .ok (.invokevirtual 44, 3) := by decide +kernel
theorem dX6_reachItem_44 : decode cX6_reachItem 44 = .ok (.ifCond .ne 5, 3) := by decide +kernel
theorem dX6_reachItem_47 : decode cX6_reachItem 47 = .ok (.iconst 0, 1) := by decide +kernel
theorem dX6_reachItem_48 : decode cX6_reachItem 48 = .ok (.ireturn, 1) := by decide +kernel
theorem dX6_reachItem_49 : decode cX6_reachItem 49 = .ok (.aload_n 0, 1) := by decide +kernel
theorem dX6_reachItem_50 : decode cX6_reachItem 50 = .ok (.aload_n 0, 1) := by decide +kernel
theorem dX6_reachItem_51 : decode cX6_reachItem 51 = .ok (.iload_n 3, 1) := by decide +kernel
theorem dX6_reachItem_52 : decode cX6_reachItem 52 = .ok (.iload_n 2, 1) := by decide +kernel
theorem dX6_reachItem_53 : decode cX6_reachItem 53 = .ok (.invokevirtual 87, 3) := by decide +kernel
theorem dX6_reachItem_56 : decode cX6_reachItem 56 = .ok (.putfield 36, 3) := by decide +kernel
theorem dX6_reachItem_59 : decode cX6_reachItem 59 = .ok (.aload_n 0, 1) := by decide +kernel
theorem dX6_reachItem_60 : decode cX6_reachItem 60 = .ok (.getfield 36, 3) := by decide +kernel
theorem dX6_reachItem_63 : decode cX6_reachItem 63 = .ok (.ifCond .ne 7, 3) := by decide +kernel
theorem dX6_reachItem_66 : decode cX6_reachItem 66 = .ok (.iconst 1, 1) := by decide +kernel
theorem dX6_reachItem_67 : decode cX6_reachItem 67 = .ok (.goto 4, 3) := by decide +kernel
theorem dX6_reachItem_70 : decode cX6_reachItem 70 = .ok (.iconst 0, 1) := by decide +kernel
theorem dX6_reachItem_71 : decode cX6_reachItem 71 = .ok (.ireturn, 1) := by decide +kernel
theorem dX6_refer_0 : decode cX6_refer 0 = .ok (.aload_n 0, 1) := by decide +kernel
theorem dX6_refer_1 : decode cX6_refer 1 = .ok (.iload_n 1, 1) := by decide +kernel
theorem dX6_refer_2 : decode cX6_refer 2 = .ok (.iload_n 3, 1) := by decide +kernel
theorem dX6_refer_3 : decode cX6_refer 3 = .ok (.invokevirtual 61, 3) := by decide +kernel
theorem dX6_refer_6 : decode cX6_refer 6 = .ok (.ifCond .eq 12, 3) := by decide +kernel
theorem dX6_refer_9 : decode cX6_refer 9 = .ok (.aload_n 0, 1) := by decide +kernel
theorem dX6_refer_10 : decode cX6_refer 10 = .ok (.iload_n 1, 1) := by decide +kernel
theorem dX6_refer_11 : decode cX6_refer 11 = .ok (.iload_n 2, 1) := by decide +kernel
theorem dX6_refer_12 : decode cX6_refer 12 = .ok (.invokevirtual 104, 3) := by decide +kernel
theorem dX6_refer_15 : decode cX6_refer 15 = .ok (.ifCond .ne 4, 3) := by decide +kernel
theorem dX6_refer_18 : decode cX6_refer 18 = .ok (.return_, 1) := by decide +kernel
theorem dX6_refer_19 : decode cX6_refer 19 = .ok (.aload_n 0, 1) := by decide +kernel
theorem dX6_refer_20 : decode cX6_refer 20 = .ok (.getfield 28, 3) := by decide +kernel
theorem dX6_refer_23 : decode cX6_refer 23 = .ok (.bipush 24, 2) := by decide +kernel
theorem dX6_refer_25 : decode cX6_refer 25 = .ok (.aload_n 0, 1) := by decide +kernel
theorem dX6_refer_26 : decode cX6_refer 26 = .ok (.getfield 71, 3) := by decide +kernel
theorem dX6_refer_29 : decode cX6_refer 29 = .ok (.imul, 1) := by decide +kernel
theorem dX6_refer_30 : decode cX6_refer 30 = .ok (.aload_n 0, 1) := by decide +kernel
theorem dX6_refer_31 : decode cX6_refer 31 = .ok (.getfield 68, 3) := by decide +kernel
theorem dX6_refer_34 : decode cX6_refer 34 = .ok (.iadd, 1) := by decide +kernel
theorem dX6_refer_35 : decode cX6_refer 35 = .ok (.aload_n 0, 1) := by decide +kernel
theorem dX6_refer_36 : decode cX6_refer 36 = .ok (.getfield 7, 3) := by decide +kernel
theorem dX6_refer_39 : decode cX6_refer 39 = .ok (.iload_n 3, 1) := by decide +kernel
theorem dX6_refer_40 : decode cX6_refer 40 = .ok (.iaload, 1) := by decide +kernel
theorem dX6_refer_41 : decode cX6_refer 41 = .ok (.i2l, 1) := by decide +kernel
theorem dX6_refer_42 : decode cX6_refer 42 = .ok (.lastore, 1) := by decide +kernel
theorem dX6_refer_43 : decode cX6_refer 43 = .ok (.return_, 1) := by decide +kernel
theorem dX6_fetch_0 : decode cX6_fetch 0 = .ok (.aload_n 0, 1) := by decide +kernel
theorem dX6_fetch_1 : decode cX6_fetch 1 = .ok (.iload_n 1, 1) := by decide +kernel
theorem dX6_fetch_2 : decode cX6_fetch 2 = .ok (.iload_n 2, 1) := by decide +kernel
theorem dX6_fetch_3 : decode cX6_fetch 3 = .ok (.invokevirtual 61, 3) := by decide +kernel
theorem dX6_fetch_6 : decode cX6_fetch 6 = .ok (.ifCond .eq 12, 3) := by decide +kernel
theorem dX6_fetch_9 : decode cX6_fetch 9 = .ok (.aload_n 0, 1) := by decide +kernel
theorem dX6_fetch_10 : decode cX6_fetch 10 = .ok (.iload_n 2, 1) := by decide +kernel
theorem dX6_fetch_11 : decode cX6_fetch 11 = .ok (.iload_n 3, 1) := by decide +kernel
theorem dX6_fetch_12 : decode cX6_fetch 12 = .ok (.invokevirtual 104, 3) := by decide +kernel
theorem dX6_fetch_15 : decode cX6_fetch 15 = .ok (.ifCond .ne 5, 3) := by decide +kernel
theorem dX6_fetch_18 : decode cX6_fetch 18 = .ok (.iconst 0, 1) := by decide +kernel
theorem dX6_fetch_19 : decode cX6_fetch 19 = .ok (.ireturn, 1) := by decide +kernel
theorem dX6_fetch_20 : decode cX6_fetch 20 = .ok (.aload_n 0, 1) := by decide +kernel
theorem dX6_fetch_21 : decode cX6_fetch 21 = .ok (.invokevirtual 80, 3) := by decide +kernel
theorem dX6_fetch_24 : decode cX6_fetch 24 = .ok (.l2i, 1) := by decide +kernel
theorem dX6_fetch_25 : decode cX6_fetch 25 = .ok (.istore 4, 2) := by decide +kernel
theorem dX6_fetch_27 : decode cX6_fetch 27 = .ok (.aload_n 0, 1) := by decide +kernel
theorem dX6_fetch_28 : decode cX6_fetch 28 = .ok (.getfield 7, 3) := by decide +kernel
theorem dX6_fetch_31 : decode cX6_fetch 31 = .ok (.iload_n 1, 1) := by decide +kernel
theorem dX6_fetch_32 : decode cX6_fetch 32 = .ok (.iload 4, 2) := by decide +kernel
theorem dX6_fetch_34 : decode cX6_fetch 34 = .ok (.iastore, 1) := by decide +kernel
theorem dX6_fetch_35 : decode cX6_fetch 35 = .ok (.iload 4, 2) := by decide +kernel
theorem dX6_fetch_37 : decode cX6_fetch 37 = .ok (.ifCond .ge 7, 3) := by decide +kernel
theorem dX6_fetch_40 : decode cX6_fetch 40 = .ok (.iconst (-1), 1) := by decide +kernel
theorem dX6_fetch_41 : decode cX6_fetch 41 = .ok (.goto 9, 3) := by decide +kernel
theorem dX6_fetch_44 : decode cX6_fetch 44 = .ok (.aload_n 0, 1) := by decide +kernel
theorem dX6_fetch_45 : decode cX6_fetch 45 = .ok (.iload 4, 2) := by decide +kernel
theorem dX6_fetch_47 : decode cX6_fetch 47 = .ok (.invokevirtual 84, 3) := by decide +kernel
theorem dX6_fetch_50 : decode cX6_fetch 50 = .ok (.ireturn, 1) := by decide +kernel
theorem dX6_isRecord_0 : decode cX6_isRecord 0 = .ok (.aload_n 0, 1) := by decide +kernel
theorem dX6_isRecord_1 : decode cX6_isRecord 1 = .ok (.getfield 7, 3) := by decide +kernel
theorem dX6_isRecord_4 : decode cX6_isRecord 4 = .ok (.iload_n 1, 1) := by decide +kernel
theorem dX6_isRecord_5 : decode cX6_isRecord 5 = .ok (.iaload, 1) := by decide +kernel
theorem dX6_isRecord_6 : decode cX6_isRecord 6 = .ok (.istore_n 2, 1) := by decide +kernel
theorem dX6_isRecord_7 : decode cX6_isRecord 7 = .ok (.aload_n 0, 1) := by decide +kernel
theorem dX6_isRecord_8 : decode cX6_isRecord 8 = .ok (.iload_n 2, 1) := by decide +kernel
theorem dX6_isRecord_9 : decode cX6_isRecord 9 = .ok (.ifCond .lt 14, 3) := by decide +kernel
theorem dX6_isRecord_12 : decode cX6_isRecord 12 = .ok (.aload_n 0, 1) := by decide +kernel
theorem dX6_isRecord_13 : decode cX6_isRecord 13 = .ok (.getfield 13, 3) := by decide +kernel
theorem dX6_isRecord_16 : decode cX6_isRecord 16 = .ok (.iload_n 2, 1) := by decide +kernel
theorem dX6_isRecord_17 : decode cX6_isRecord 17 = .ok (.iaload, 1) := by decide +kernel
theorem dX6_isRecord_18 : decode cX6_isRecord 18 = .ok (.bipush 10, 2) := by decide +kernel
theorem dX6_isRecord_20 : decode cX6_isRecord 20 = .ok (.if_icmp .ne 7, 3) := by decide +kernel
theorem dX6_isRecord_23 : decode cX6_isRecord 23 = .ok (.iconst 1, 1) := by decide +kernel
theorem dX6_isRecord_24 : decode cX6_isRecord 24 = .ok (.goto 4, 3) := by decide +kernel
theorem dX6_isRecord_27 : decode cX6_isRecord 27 = .ok (.iconst 0, 1) := by decide +kernel
theorem dX6_isRecord_28 : decode cX6_isRecord 28 = .ok (.iconst 2, 1) := by decide +kernel
theorem dX6_isRecord_29 : decode cX6_isRecord 29 = .ok (.invokevirtual 44, 3) := by decide +kernel
theorem dX6_isRecord_32 : decode cX6_isRecord 32 = .ok (.ifCond .eq 24, 3) := by decide +kernel
theorem dX6_isRecord_35 : decode cX6_isRecord 35 = .ok (.aload_n 0, 1) := by decide +kernel
theorem dX6_isRecord_36 : decode cX6_isRecord 36 = .ok (.iload_n 2, 1) := by decide +kernel
theorem dX6_isRecord_37 : decode cX6_isRecord 37 = .ok (.ifCond .lt 7, 3) := by decide +kernel
theorem dX6_isRecord_40 : decode cX6_isRecord 40 = .ok (.iconst 1, 1) := by decide +kernel
theorem dX6_isRecord_41 : decode cX6_isRecord 41 = .ok (.goto 4, 3) := by decide +kernel
theorem dX6_isRecord_44 : decode cX6_isRecord 44 = .ok (.iconst 0, 1) := by decide +kernel
theorem dX6_isRecord_45 : decode cX6_isRecord 45 = .ok (.iconst 3, 1) := by decide +kernel
theorem dX6_isRecord_46 : decode cX6_isRecord 46 = .ok (.invokevirtual 44, 3) := by decide +kernel
theorem dX6_isRecord_49 : decode cX6_isRecord 49 = .ok (.ifCond .eq 7, 3) := by decide +kernel
theorem dX6_isRecord_52 : decode cX6_isRecord 52 = .ok (.iconst 1, 1) := by decide +kernel
theorem dX6_isRecord_53 : decode cX6_isRecord 53 = .ok (.goto 4, 3) := by decide +kernel
theorem dX6_isRecord_56 : decode cX6_isRecord 56 = .ok (.iconst 0, 1) := by decide +kernel
theorem dX6_isRecord_57 : decode cX6_isRecord 57 = .ok (.ireturn, 1) := by decide +kernel
theorem dX6_link_0 : decode cX6_link 0 = .ok (.aload_n 0, 1) := by decide +kernel
theorem dX6_link_1 : decode cX6_link 1 = .ok (.iload_n 1, 1) := by decide +kernel
theorem dX6_link_2 : decode cX6_link 2 = .ok (.iload_n 2, 1) := by decide +kernel
theorem dX6_link_3 : decode cX6_link 3 = .ok (.invokevirtual 61, 3) := by decide +kernel
theorem dX6_link_6 : decode cX6_link 6 = .ok (.ifCond .ne 4, 3) := by decide +kernel
theorem dX6_link_9 : decode cX6_link 9 = .ok (.return_, 1) := by decide +kernel
theorem dX6_link_10 : decode cX6_link 10 = .ok (.aload_n 0, 1) := by decide +kernel
theorem dX6_link_11 : decode cX6_link 11 = .ok (.getfield 7, 3) := by decide +kernel
theorem dX6_link_14 : decode cX6_link 14 = .ok (.iload_n 2, 1) := by decide +kernel
theorem dX6_link_15 : decode cX6_link 15 = .ok (.iaload, 1) := by decide +kernel
theorem dX6_link_16 : decode cX6_link 16 = .ok (.istore_n 3, 1) := by decide +kernel
theorem dX6_link_17 : decode cX6_link 17 = .ok (.aload_n 0, 1) := by decide +kernel
theorem dX6_link_18 : decode cX6_link 18 = .ok (.iload_n 3, 1) := by decide +kernel
theorem dX6_link_19 : decode cX6_link 19 = .ok (.ifCond .lt 14, 3) := by decide +kernel
theorem dX6_link_22 : decode cX6_link 22 = .ok (.aload_n 0, 1) := by decide +kernel
theorem dX6_link_23 : decode cX6_link 23 = .ok (.getfield 13, 3) := by decide +kernel
theorem dX6_link_26 : decode cX6_link 26 = .ok (.iload_n 3, 1) := by decide +kernel
theorem dX6_link_27 : decode cX6_link 27 = .ok (.iaload, 1) := by decide +kernel
theorem dX6_link_28 : decode cX6_link 28 = .ok (.bipush 10, 2) := by decide +kernel
theorem dX6_link_30 : decode cX6_link 30 = .ok (.if_icmp .ne 7, 3) := by decide +kernel
theorem dX6_link_33 : decode cX6_link 33 = .ok (.iconst 1, 1) := by decide +kernel
theorem dX6_link_34 : decode cX6_link 34 = .ok (.goto 4, 3) := by decide +kernel
theorem dX6_link_37 : decode cX6_link 37 = .ok (.iconst 0, 1) := by decide +kernel
theorem dX6_link_38 : decode cX6_link 38 = .ok (.iconst 2, 1) := by decide +kernel
theorem dX6_link_39 : decode cX6_link 39 = .ok (.invokevirtual 44, 3) := by decide +kernel
theorem dX6_link_42 : decode cX6_link 42 = .ok (.ifCond .eq 11, 3) := by decide +kernel
theorem dX6_link_45 : decode cX6_link 45 = .ok (.aload_n 0, 1) := by decide +kernel
theorem dX6_link_46 : decode cX6_link 46 = .ok (.iload_n 1, 1) := by decide +kernel
theorem dX6_link_47 : decode cX6_link 47 = .ok (.invokevirtual 107, 3) := by decide +kernel
theorem dX6_link_50 : decode cX6_link 50 = .ok (.ifCond .ne 4, 3) := by decide +kernel
theorem dX6_link_53 : decode cX6_link 53 = .ok (.return_, 1) := by decide +kernel
theorem dX6_link_54 : decode cX6_link 54 = .ok (.aload_n 0, 1) := by decide +kernel
theorem dX6_link_55 : decode cX6_link 55 = .ok (.getfield 28, 3) := by decide +kernel
theorem dX6_link_58 : decode cX6_link 58 = .ok (.bipush 24, 2) := by decide +kernel
theorem dX6_link_60 : decode cX6_link 60 = .ok (.aload_n 0, 1) := by decide +kernel
theorem dX6_link_61 : decode cX6_link 61 = .ok (.getfield 7, 3) := by decide +kernel
theorem dX6_link_64 : decode cX6_link 64 = .ok (.iload_n 1, 1) := by decide +kernel
theorem dX6_link_65 : decode cX6_link 65 = .ok (.iaload, 1) := by decide +kernel
theorem dX6_link_66 : decode cX6_link 66 = .ok (.imul, 1) := by decide +kernel
theorem dX6_link_67 : decode cX6_link 67 = .ok (.iconst 1, 1) := by decide +kernel
theorem dX6_link_68 : decode cX6_link 68 = .ok (.iadd, 1) := by decide +kernel
theorem dX6_link_69 : decode cX6_link 69 = .ok (.iload_n 3, 1) := by decide +kernel
theorem dX6_link_70 : decode cX6_link 70 = .ok (.i2l, 1) := by decide +kernel
theorem dX6_link_71 : decode cX6_link 71 = .ok (.lastore, 1) := by decide +kernel
theorem dX6_link_72 : decode cX6_link 72 = .ok (.return_, 1) := by decide +kernel
theorem dX6_follow_0 : decode cX6_follow 0 = .ok (.aload_n 0, 1) := by decide +kernel
theorem dX6_follow_1 : decode cX6_follow 1 = .ok (.iload_n 1, 1) := by decide +kernel
theorem dX6_follow_2 : decode cX6_follow 2 = .ok (.iload_n 2, 1) := by decide +kernel
theorem dX6_follow_3 : decode cX6_follow 3 = .ok (.invokevirtual 61, 3) := by decide +kernel
theorem dX6_follow_6 : decode cX6_follow 6 = .ok (.ifCond .eq 11, 3) := by decide +kernel
theorem dX6_follow_9 : decode cX6_follow 9 = .ok (.aload_n 0, 1) := by decide +kernel
theorem dX6_follow_10 : decode cX6_follow 10 = .ok (.iload_n 2, 1) := by decide +kernel
theorem dX6_follow_11 : decode cX6_follow 11 = .ok (.invokevirtual 107, 3) := by decide +kernel
theorem dX6_follow_14 : decode cX6_follow 14 = .ok (.ifCond .ne 5, 3) := by decide +kernel
theorem dX6_follow_17 : decode cX6_follow 17 = .ok (.iconst 0, 1) := by decide +kernel
theorem dX6_follow_18 : decode cX6_follow 18 = .ok (.ireturn, 1) := by decide +kernel
theorem dX6_follow_19 : decode cX6_follow 19 = .ok (.aload_n 0, 1) := by decide +kernel
theorem dX6_follow_20 : decode cX6_follow 20 = .ok (.getfield 7, 3) := by decide +kernel
theorem dX6_follow_23 : decode cX6_follow 23 = .ok (.iload_n 1, 1) := by decide +kernel
theorem dX6_follow_24 : decode cX6_follow 24 = .ok (.aload_n 0, 1) := by decide +kernel
theorem dX6_follow_25 : decode cX6_follow 25 = .ok (.getfield 28, 3) := by decide +kernel
theorem dX6_follow_28 : decode cX6_follow 28 = .ok (.bipush 24, 2) := by decide +kernel
theorem dX6_follow_30 : decode cX6_follow 30 = .ok (.aload_n 0, 1) := by decide +kernel
theorem dX6_follow_31 : decode cX6_follow 31 = .ok (.getfield 7, 3) := by decide +kernel
theorem dX6_follow_34 : decode cX6_follow 34 = .ok (.iload_n 2, 1) := by decide +kernel
theorem dX6_follow_35 : decode cX6_follow 35 = .ok (.iaload, 1) := by decide +kernel
theorem dX6_follow_36 : decode cX6_follow 36 = .ok (.imul, 1) := by decide +kernel
theorem dX6_follow_37 : decode cX6_follow 37 = .ok (.iconst 1, 1) := by decide +kernel
theorem dX6_follow_38 : decode cX6_follow 38 = .ok (.iadd, 1) := by decide +kernel
theorem dX6_follow_39 : decode cX6_follow 39 = .ok (.laload, 1) := by decide +kernel
theorem dX6_follow_40 : decode cX6_follow 40 = .ok (.l2i, 1) := by decide +kernel
theorem dX6_follow_41 : decode cX6_follow 41 = .ok (.iastore, 1) := by decide +kernel
theorem dX6_follow_42 : decode cX6_follow 42 = .ok (.aload_n 0, 1) := by decide +kernel
theorem dX6_follow_43 : decode cX6_follow 43 = .ok (.getfield 7, 3) := by decide +kernel
theorem dX6_follow_46 : decode cX6_follow 46 = .ok (.iload_n 1, 1) := by decide +kernel
theorem dX6_follow_47 : decode cX6_follow 47 = .ok (.iaload, 1) := by decide +kernel
theorem dX6_follow_48 : decode cX6_follow 48 = .ok (.ifCond .ge 7, 3) := by decide +kernel
theorem dX6_follow_51 : decode cX6_follow 51 = .ok (.iconst 1, 1) := by decide +kernel
theorem dX6_follow_52 : decode cX6_follow 52 = .ok (.goto 4, 3) := by decide +kernel
theorem dX6_follow_55 : decode cX6_follow 55 = .ok (.iconst 0, 1) := by decide +kernel
theorem dX6_follow_56 : decode cX6_follow 56 = .ok (.ireturn, 1) := by decide +kernel
theorem dX6_exchange_0 : decode cX6_exchange 0 = .ok (.aload_n 0, 1) := by decide +kernel
theorem dX6_exchange_1 : decode cX6_exchange 1 = .ok (.iload_n 1, 1) := by decide +kernel
theorem dX6_exchange_2 : decode cX6_exchange 2 = .ok (.iconst 0, 1) := by decide +kernel
theorem dX6_exchange_3 : decode cX6_exchange 3 = .ok (.invokevirtual 61, 3) := by decide +kernel
theorem dX6_exchange_6 : decode cX6_exchange 6 = .ok (.ifCond .eq 11, 3) := by decide +kernel
theorem dX6_exchange_9 : decode cX6_exchange 9 = .ok (.aload_n 0, 1) := by decide +kernel
theorem dX6_exchange_10 : decode cX6_exchange 10 = .ok (.iload_n 1, 1) := by decide +kernel
theorem dX6_exchange_11 : decode cX6_exchange 11 = .ok (.invokevirtual 107, 3) := by decide +kernel
theorem dX6_exchange_14 : decode cX6_exchange 14 = .ok (.ifCond .ne 5, 3) := by decide +kernel
theorem dX6_exchange_17 : decode cX6_exchange 17 = .ok (.lconst 0, 1) := by decide +kernel
theorem dX6_exchange_18 : decode cX6_exchange 18 = .ok (.lreturn, 1) := by decide +kernel
theorem dX6_exchange_19 : decode cX6_exchange 19 = .ok (.bipush 24, 2) := by decide +kernel
theorem dX6_exchange_21 : decode cX6_exchange 21 = .ok (.aload_n 0, 1) := by decide +kernel
theorem dX6_exchange_22 : decode cX6_exchange 22 = .ok (.getfield 7, 3) := by decide +kernel
theorem dX6_exchange_25 : decode cX6_exchange 25 = .ok (.iload_n 1, 1) := by decide +kernel
theorem dX6_exchange_26 : decode cX6_exchange 26 = .ok (.iaload, 1) := by decide +kernel
theorem dX6_exchange_27 : decode cX6_exchange 27 = .ok (.imul, 1) := by decide +kernel
theorem dX6_exchange_28 : decode cX6_exchange 28 = .ok (.istore 4, 2) := by decide +kernel
theorem dX6_exchange_30 : decode cX6_exchange 30 = .ok (.aload_n 0, 1) := by decide +kernel
theorem dX6_exchange_31 : decode cX6_exchange 31 = .ok (.getfield 28, 3) := by decide +kernel
theorem dX6_exchange_34 : decode cX6_exchange 34 = .ok (.iload 4, 2) := by decide +kernel
theorem dX6_exchange_36 : decode cX6_exchange 36 = .ok (.laload, 1) := by decide +kernel
theorem dX6_exchange_37 : decode cX6_exchange 37 = .ok (.lstore 5, 2) := by decide +kernel
theorem dX6_exchange_39 : decode cX6_exchange 39 = .ok (.aload_n 0, 1) := by decide +kernel
theorem dX6_exchange_40 : decode cX6_exchange 40 = .ok (.getfield 28, 3) := by decide +kernel
theorem dX6_exchange_43 : decode cX6_exchange 43 = .ok (.iload 4, 2) := by decide +kernel
theorem dX6_exchange_45 : decode cX6_exchange 45 = .ok (.lload_n 2, 1) := by decide +kernel
theorem dX6_exchange_46 : decode cX6_exchange 46 = .ok (.lastore, 1) := by decide +kernel
theorem dX6_exchange_47 : decode cX6_exchange 47 = .ok (.lload 5, 2) := by decide +kernel
theorem dX6_exchange_49 : decode cX6_exchange 49 = .ok (.lreturn, 1) := by decide +kernel
theorem dX6_total_0 : decode cX6_total 0 = .ok (.aload_n 0, 1) := by decide +kernel
theorem dX6_total_1 : decode cX6_total 1 = .ok (.iload_n 1, 1) := by decide +kernel
theorem dX6_total_2 : decode cX6_total 2 = .ok (.iconst 0, 1) := by decide +kernel
theorem dX6_total_3 : decode cX6_total 3 = .ok (.invokevirtual 61, 3) := by decide +kernel
theorem dX6_total_6 : decode cX6_total 6 = .ok (.ifCond .eq 11, 3) := by decide +kernel
theorem dX6_total_9 : decode cX6_total 9 = .ok (.aload_n 0, 1) := by decide +kernel
theorem dX6_total_10 : decode cX6_total 10 = .ok (.iload_n 1, 1) := by decide +kernel
theorem dX6_total_11 : decode cX6_total 11 = .ok (.invokevirtual 107, 3) := by decide +kernel
theorem dX6_total_14 : decode cX6_total 14 = .ok (.ifCond .ne 5, 3) := by decide +kernel
theorem dX6_total_17 : decode cX6_total 17 = .ok (.lconst 0, 1) := by decide +kernel
theorem dX6_total_18 : decode cX6_total 18 = .ok (.lreturn, 1) := by decide +kernel
theorem dX6_total_19 : decode cX6_total 19 = .ok (.lconst 0, 1) := by decide +kernel
theorem dX6_total_20 : decode cX6_total 20 = .ok (.lstore_n 2, 1) := by decide +kernel
theorem dX6_total_21 : decode cX6_total 21 = .ok (.aload_n 0, 1) := by decide +kernel
theorem dX6_total_22 : decode cX6_total 22 = .ok (.getfield 7, 3) := by decide +kernel
theorem dX6_total_25 : decode cX6_total 25 = .ok (.iload_n 1, 1) := by decide +kernel
theorem dX6_total_26 : decode cX6_total 26 = .ok (.iaload, 1) := by decide +kernel
theorem dX6_total_27 : decode cX6_total 27 = .ok (.istore 4, 2) := by decide +kernel
theorem dX6_total_29 : decode cX6_total 29 = .ok (.iconst 0, 1) := by decide +kernel
theorem dX6_total_30 : decode cX6_total 30 = .ok (.istore 5, 2) := by decide +kernel
theorem dX6_total_32 : decode cX6_total 32 = .ok (.iload 5, 2) := by decide +kernel
theorem dX6_total_34 : decode cX6_total 34 = .ok (.bipush 20, 2) := by decide +kernel
theorem dX6_total_36 : decode cX6_total 36 = .ok (.if_icmp .ge 42, 3) := by decide +kernel
theorem dX6_total_39 : decode cX6_total 39 = .ok (.iload 4, 2) := by decide +kernel
theorem dX6_total_41 : decode cX6_total 41 = .ok (.ifCond .lt 37, 3) := by decide +kernel
theorem dX6_total_44 : decode cX6_total 44 = .ok (.lload_n 2, 1) := by decide +kernel
theorem dX6_total_45 : decode cX6_total 45 = .ok (.aload_n 0, 1) := by decide +kernel
theorem dX6_total_46 : decode cX6_total 46 = .ok (.getfield 28, 3) := by decide +kernel
theorem dX6_total_49 : decode cX6_total 49 = .ok (.bipush 24, 2) := by decide +kernel
theorem dX6_total_51 : decode cX6_total 51 = .ok (.iload 4, 2) := by decide +kernel
theorem dX6_total_53 : decode cX6_total 53 = .ok (.imul, 1) := by decide +kernel
theorem dX6_total_54 : decode cX6_total 54 = .ok (.laload, 1) := by decide +kernel
theorem dX6_total_55 : decode cX6_total 55 = .ok (.ladd, 1) := by decide +kernel
theorem dX6_total_56 : decode cX6_total 56 = .ok (.lstore_n 2, 1) := by decide +kernel
theorem dX6_total_57 : decode cX6_total 57 = .ok (.aload_n 0, 1) := by decide +kernel
theorem dX6_total_58 : decode cX6_total 58 = .ok (.getfield 28, 3) := by decide +kernel
theorem dX6_total_61 : decode cX6_total 61 = .ok (.bipush 24, 2) := by decide +kernel
theorem dX6_total_63 : decode cX6_total 63 = .ok (.iload 4, 2) := by decide +kernel
theorem dX6_total_65 : decode cX6_total 65 = .ok (.imul, 1) := by decide +kernel
theorem dX6_total_66 : decode cX6_total 66 = .ok (.iconst 1, 1) := by decide +kernel
theorem dX6_total_67 : decode cX6_total 67 = .ok (.iadd, 1) := by decide +kernel
theorem dX6_total_68 : decode cX6_total 68 = .ok (.laload, 1) := by decide +kernel
theorem dX6_total_69 : decode cX6_total 69 = .ok (.l2i, 1) := by decide +kernel
theorem dX6_total_70 : decode cX6_total 70 = .ok (.istore 4, 2) := by decide +kernel
theorem dX6_total_72 : decode cX6_total 72 = .ok (.iinc 5 1, 3) := by decide +kernel
theorem dX6_total_75 : decode cX6_total 75 = .ok (.goto (-43), 3) := by decide +kernel
theorem dX6_total_78 : decode cX6_total 78 = .ok (.lload_n 2, 1) := by decide +kernel
theorem dX6_total_79 : decode cX6_total 79 = .ok (.lreturn, 1) := by decide +kernel
theorem dX6_both_0 : decode cX6_both 0 = .ok (.aload_n 0, 1) := by decide +kernel
theorem dX6_both_1 : decode cX6_both 1 = .ok (.getfield 7, 3) := by decide +kernel
theorem dX6_both_4 : decode cX6_both 4 = .ok (.iload_n 1, 1) := by decide +kernel
theorem dX6_both_5 : decode cX6_both 5 = .ok (.iaload, 1) := by decide +kernel
theorem dX6_both_6 : decode cX6_both 6 = .ok (.istore 4, 2) := by decide +kernel
theorem dX6_both_8 : decode cX6_both 8 = .ok (.aload_n 0, 1) := by decide +kernel
theorem dX6_both_9 : decode cX6_both 9 = .ok (.getfield 7, 3) := by decide +kernel
theorem dX6_both_12 : decode cX6_both 12 = .ok (.iload_n 2, 1) := by decide +kernel
theorem dX6_both_13 : decode cX6_both 13 = .ok (.iaload, 1) := by decide +kernel
theorem dX6_both_14 : decode cX6_both 14 = .ok (.istore 5, 2) := by decide +kernel
theorem dX6_both_16 : decode cX6_both 16 = .ok (.aload_n 0, 1) := by decide +kernel
end
section
theorem dX6_both_17 : decode cX6_both 17 = .ok (.iload 4, 2) := by decide +kernel
theorem dX6_both_19 : decode cX6_both 19 = .ok (.ifCond .lt 12, 3) := by decide +kernel
theorem dX6_both_22 : decode cX6_both 22 = .ok (.iload 5, 2) := by decide +kernel
theorem dX6_both_24 : decode cX6_both 24 = .ok (.ifCond .lt 7, 3) := by decide +kernel
theorem dX6_both_27 : decode cX6_both 27 = .ok (.iconst 1, 1) := by decide +kernel
theorem dX6_both_28 : decode cX6_both 28 = .ok (.goto 4, 3) := by decide +kernel
theorem dX6_both_31 : decode cX6_both 31 = .ok (.iconst 0, 1) := by decide +kernel
theorem dX6_both_32 : decode cX6_both 32 = .ok (.iconst 2, 1) := by decide +kernel
theorem dX6_both_33 : decode cX6_both 33 = .ok (.invokevirtual 44, 3) := by decide +kernel
theorem dX6_both_36 : decode cX6_both 36 = .ok (.ifCond .eq 40, 3) := by decide +kernel
theorem dX6_both_39 : decode cX6_both 39 = .ok (.aload_n 0, 1) := by decide +kernel
theorem dX6_both_40 : decode cX6_both 40 = .ok (.aload_n 0, 1) := by decide +kernel
theorem dX6_both_41 : decode cX6_both 41 = .ok (.iload 4, 2) := by decide +kernel
theorem dX6_both_43 : decode cX6_both 43 = .ok (.invokevirtual 84, 3) := by decide +kernel
theorem dX6_both_46 : decode cX6_both 46 = .ok (.iload_n 3, 1) := by decide +kernel
theorem dX6_both_47 : decode cX6_both 47 = .ok (.if_icmp .gt 17, 3) := by decide +kernel
theorem dX6_both_50 : decode cX6_both 50 = .ok (.aload_n 0, 1) := by decide +kernel
theorem dX6_both_51 : decode cX6_both 51 = .ok (.iload 5, 2) := by decide +kernel
theorem dX6_both_53 : decode cX6_both 53 = .ok (.invokevirtual 84, 3) := by decide +kernel
theorem dX6_both_56 : decode cX6_both 56 = .ok (.iload_n 3, 1) := by decide +kernel
theorem dX6_both_57 : decode cX6_both 57 = .ok (.if_icmp .gt 7, 3) := by decide +kernel
theorem dX6_both_60 : decode cX6_both 60 = .ok (.iconst 1, 1) := by decide +kernel
theorem dX6_both_61 : decode cX6_both 61 = .ok (.goto 4, 3) := by decide +kernel
theorem dX6_both_64 : decode cX6_both 64 = .ok (.iconst 0, 1) := by decide +kernel
theorem dX6_both_65 : decode cX6_both 65 = .ok (.iconst 3, 1) := by decide +kernel
theorem dX6_both_66 : decode cX6_both 66 = .ok (.invokevirtual 44, 3) := by decide +kernel
theorem dX6_both_69 : decode cX6_both 69 = .ok (.ifCond .eq 7, 3) := by decide +kernel
theorem dX6_both_72 : decode cX6_both 72 = .ok (.iconst 1, 1) := by decide +kernel
theorem dX6_both_73 : decode cX6_both 73 = .ok (.goto 4, 3) := by decide +kernel
theorem dX6_both_76 : decode cX6_both 76 = .ok (.iconst 0, 1) := by decide +kernel
theorem dX6_both_77 : decode cX6_both 77 = .ok (.ireturn, 1) := by decide +kernel
theorem dX6_reckon_0 : decode cX6_reckon 0 = .ok (.iload_n 0, 1) := by decide +kernel
theorem dX6_reckon_1 : decode cX6_reckon 1 = .ok (.ifCond .ne 7, 3) := by decide +kernel
theorem dX6_reckon_4 : decode cX6_reckon 4 = .ok (.lload_n 1, 1) := by decide +kernel
theorem dX6_reckon_5 : decode cX6_reckon 5 = .ok (.lload_n 3, 1) := by decide +kernel
theorem dX6_reckon_6 : decode cX6_reckon 6 = .ok (.ladd, 1) := by decide +kernel
theorem dX6_reckon_7 : decode cX6_reckon 7 = .ok (.lreturn, 1) := by decide +kernel
theorem dX6_reckon_8 : decode cX6_reckon 8 = .ok (.iload_n 0, 1) := by decide +kernel
theorem dX6_reckon_9 : decode cX6_reckon 9 = .ok (.iconst 1, 1) := by decide +kernel
theorem dX6_reckon_10 : decode cX6_reckon 10 = .ok (.if_icmp .ne 7, 3) := by decide +kernel
theorem dX6_reckon_13 : decode cX6_reckon 13 = .ok (.lload_n 1, 1) := by decide +kernel
theorem dX6_reckon_14 : decode cX6_reckon 14 = .ok (.lload_n 3, 1) := by decide +kernel
theorem dX6_reckon_15 : decode cX6_reckon 15 = .ok (.lsub, 1) := by decide +kernel
theorem dX6_reckon_16 : decode cX6_reckon 16 = .ok (.lreturn, 1) := by decide +kernel
theorem dX6_reckon_17 : decode cX6_reckon 17 = .ok (.iload_n 0, 1) := by decide +kernel
theorem dX6_reckon_18 : decode cX6_reckon 18 = .ok (.iconst 2, 1) := by decide +kernel
theorem dX6_reckon_19 : decode cX6_reckon 19 = .ok (.if_icmp .ne 7, 3) := by decide +kernel
theorem dX6_reckon_22 : decode cX6_reckon 22 = .ok (.lload_n 1, 1) := by decide +kernel
theorem dX6_reckon_23 : decode cX6_reckon 23 = .ok (.lload_n 3, 1) := by decide +kernel
theorem dX6_reckon_24 : decode cX6_reckon 24 = .ok (.lmul, 1) := by decide +kernel
theorem dX6_reckon_25 : decode cX6_reckon 25 = .ok (.lreturn, 1) := by decide +kernel
theorem dX6_reckon_26 : decode cX6_reckon 26 = .ok (.lload_n 3, 1) := by decide +kernel
theorem dX6_reckon_27 : decode cX6_reckon 27 = .ok (.ldc2_w 51, 3) := by decide +kernel
theorem dX6_reckon_30 : decode cX6_reckon 30 = .ok (.lcmp, 1) := by decide +kernel
theorem dX6_reckon_31 : decode cX6_reckon 31 = .ok (.ifCond .ne 16, 3) := by decide +kernel
theorem dX6_reckon_34 : decode cX6_reckon 34 = .ok (.iload_n 0, 1) := by decide +kernel
theorem dX6_reckon_35 : decode cX6_reckon 35 = .ok (.iconst 3, 1) := by decide +kernel
theorem dX6_reckon_36 : decode cX6_reckon 36 = .ok (.if_icmp .ne 9, 3) := by decide +kernel
theorem dX6_reckon_39 : decode cX6_reckon 39 = .ok (.lconst 0, 1) := by decide +kernel
theorem dX6_reckon_40 : decode cX6_reckon 40 = .ok (.lload_n 1, 1) := by decide +kernel
theorem dX6_reckon_41 : decode cX6_reckon 41 = .ok (.lsub, 1) := by decide +kernel
theorem dX6_reckon_42 : decode cX6_reckon 42 = .ok (.goto 4, 3) := by decide +kernel
theorem dX6_reckon_45 : decode cX6_reckon 45 = .ok (.lconst 0, 1) := by decide +kernel
theorem dX6_reckon_46 : decode cX6_reckon 46 = .ok (.lreturn, 1) := by decide +kernel
theorem dX6_reckon_47 : decode cX6_reckon 47 = .ok (.iload_n 0, 1) := by decide +kernel
theorem dX6_reckon_48 : decode cX6_reckon 48 = .ok (.iconst 3, 1) := by decide +kernel
theorem dX6_reckon_49 : decode cX6_reckon 49 = .ok (.if_icmp .ne 9, 3) := by decide +kernel
theorem dX6_reckon_52 : decode cX6_reckon 52 = .ok (.lload_n 1, 1) := by decide +kernel
theorem dX6_reckon_53 : decode cX6_reckon 53 = .ok (.lload_n 3, 1) := by decide +kernel
theorem dX6_reckon_54 : decode cX6_reckon 54 = .ok (.ldiv, 1) := by decide +kernel
theorem dX6_reckon_55 : decode cX6_reckon 55 = .ok (.goto 6, 3) := by decide +kernel
theorem dX6_reckon_58 : decode cX6_reckon 58 = .ok (.lload_n 1, 1) := by decide +kernel
theorem dX6_reckon_59 : decode cX6_reckon 59 = .ok (.lload_n 3, 1) := by decide +kernel
theorem dX6_reckon_60 : decode cX6_reckon 60 = .ok (.lrem, 1) := by decide +kernel
theorem dX6_reckon_61 : decode cX6_reckon 61 = .ok (.lreturn, 1) := by decide +kernel
theorem dX6_combine_0 : decode cX6_combine 0 = .ok (.aload_n 0, 1) := by decide +kernel
theorem dX6_combine_1 : decode cX6_combine 1 = .ok (.iload_n 1, 1) := by decide +kernel
theorem dX6_combine_2 : decode cX6_combine 2 = .ok (.iconst 0, 1) := by decide +kernel
theorem dX6_combine_3 : decode cX6_combine 3 = .ok (.iconst 4, 1) := by decide +kernel
theorem dX6_combine_4 : decode cX6_combine 4 = .ok (.invokestatic 40, 3) := by decide +kernel
theorem dX6_combine_7 : decode cX6_combine 7 = .ok (.ifCond .eq 28, 3) := by decide +kernel
theorem dX6_combine_10 : decode cX6_combine 10 = .ok (.iload_n 2, 1) := by decide +kernel
theorem dX6_combine_11 : decode cX6_combine 11 = .ok (.iconst 0, 1) := by decide +kernel
theorem dX6_combine_12 : decode cX6_combine 12 = .ok (.bipush 7, 2) := by decide +kernel
theorem dX6_combine_14 : decode cX6_combine 14 = .ok (.invokestatic 40, 3) := by decide +kernel
theorem dX6_combine_17 : decode cX6_combine 17 = .ok (.ifCond .eq 18, 3) := by decide +kernel
theorem dX6_combine_20 : decode cX6_combine 20 = .ok (.iload 4, 2) := by decide +kernel
theorem dX6_combine_22 : decode cX6_combine 22 = .ok (.iconst 0, 1) := by decide +kernel
theorem dX6_combine_23 : decode cX6_combine 23 = .ok (.bipush 7, 2) := by decide +kernel
theorem dX6_combine_25 : decode cX6_combine 25 = .ok (.invokestatic 40, 3) := by decide +kernel
theorem dX6_combine_28 : decode cX6_combine 28 = .ok (.ifCond .eq 7, 3) := by decide +kernel
theorem dX6_combine_31 : decode cX6_combine 31 = .ok (.iconst 1, 1) := by decide +kernel
theorem dX6_combine_32 : decode cX6_combine 32 = .ok (.goto 4, 3) := by decide +kernel
theorem dX6_combine_35 : decode cX6_combine 35 = .ok (.iconst 0, 1) := by decide +kernel
theorem dX6_combine_36 : decode cX6_combine 36 = .ok (.iconst 1, 1) := by decide +kernel
theorem dX6_combine_37 : decode cX6_combine 37 = .ok (.invokevirtual 44, 3) := by decide +kernel
theorem dX6_combine_40 : decode cX6_combine 40 = .ok (.ifCond .eq 14, 3) := by decide +kernel
theorem dX6_combine_43 : decode cX6_combine 43 = .ok (.aload_n 0, 1) := by decide +kernel
theorem dX6_combine_44 : decode cX6_combine 44 = .ok (.iload_n 2, 1) := by decide +kernel
theorem dX6_combine_45 : decode cX6_combine 45 = .ok (.iload 4, 2) := by decide +kernel
theorem dX6_combine_47 : decode cX6_combine 47 = .ok (.iconst 5, 1) := by decide +kernel
theorem dX6_combine_48 : decode cX6_combine 48 = .ok (.invokevirtual 111, 3) := by decide +kernel
theorem dX6_combine_51 : decode cX6_combine 51 = .ok (.ifCond .ne 5, 3) := by decide +kernel
theorem dX6_combine_54 : decode cX6_combine 54 = .ok (.lconst 0, 1) := by decide +kernel
theorem dX6_combine_55 : decode cX6_combine 55 = .ok (.lreturn, 1) := by decide +kernel
theorem dX6_combine_56 : decode cX6_combine 56 = .ok (.aload_n 0, 1) := by decide +kernel
theorem dX6_combine_57 : decode cX6_combine 57 = .ok (.aload_n 0, 1) := by decide +kernel
theorem dX6_combine_58 : decode cX6_combine 58 = .ok (.getfield 7, 3) := by decide +kernel
theorem dX6_combine_61 : decode cX6_combine 61 = .ok (.iload_n 2, 1) := by decide +kernel
theorem dX6_combine_62 : decode cX6_combine 62 = .ok (.iaload, 1) := by decide +kernel
theorem dX6_combine_63 : decode cX6_combine 63 = .ok (.invokevirtual 84, 3) := by decide +kernel
theorem dX6_combine_66 : decode cX6_combine 66 = .ok (.iconst 5, 1) := by decide +kernel
theorem dX6_combine_67 : decode cX6_combine 67 = .ok (.if_icmp .ge 22, 3) := by decide +kernel
theorem dX6_combine_70 : decode cX6_combine 70 = .ok (.aload_n 0, 1) := by decide +kernel
theorem dX6_combine_71 : decode cX6_combine 71 = .ok (.aload_n 0, 1) := by decide +kernel
theorem dX6_combine_72 : decode cX6_combine 72 = .ok (.getfield 7, 3) := by decide +kernel
theorem dX6_combine_75 : decode cX6_combine 75 = .ok (.iload 4, 2) := by decide +kernel
theorem dX6_combine_77 : decode cX6_combine 77 = .ok (.iaload, 1) := by decide +kernel
theorem dX6_combine_78 : decode cX6_combine 78 = .ok (.invokevirtual 84, 3) := by decide +kernel
theorem dX6_combine_81 : decode cX6_combine 81 = .ok (.iconst 5, 1) := by decide +kernel
theorem dX6_combine_82 : decode cX6_combine 82 = .ok (.if_icmp .ge 7, 3) := by decide +kernel
theorem dX6_combine_85 : decode cX6_combine 85 = .ok (.iconst 1, 1) := by decide +kernel
theorem dX6_combine_86 : decode cX6_combine 86 = .ok (.goto 4, 3) := by decide +kernel
theorem dX6_combine_89 : decode cX6_combine 89 = .ok (.iconst 0, 1) := by decide +kernel
theorem dX6_combine_90 : decode cX6_combine 90 = .ok (.istore 6, 2) := by decide +kernel
theorem dX6_combine_92 : decode cX6_combine 92 = .ok (.aload_n 0, 1) := by decide +kernel
theorem dX6_combine_93 : decode cX6_combine 93 = .ok (.aload_n 0, 1) := by decide +kernel
theorem dX6_combine_94 : decode cX6_combine 94 = .ok (.aload_n 0, 1) := by decide +kernel
theorem dX6_combine_95 : decode cX6_combine 95 = .ok (.getfield 7, 3) := by decide +kernel
theorem dX6_combine_98 : decode cX6_combine 98 = .ok (.iload_n 2, 1) := by decide +kernel
theorem dX6_combine_99 : decode cX6_combine 99 = .ok (.iaload, 1) := by decide +kernel
theorem dX6_combine_100 : decode cX6_combine 100 = .ok (.iload_n 3, 1) := by decide +kernel
theorem dX6_combine_101 : decode cX6_combine 101 = .ok (.invokevirtual 87, 3) := by decide +kernel
theorem dX6_combine_104 : decode cX6_combine 104 = .ok (.putfield 36, 3) := by decide +kernel
theorem dX6_combine_107 : decode cX6_combine 107 = .ok (.aload_n 0, 1) := by decide +kernel
theorem dX6_combine_108 : decode cX6_combine 108 = .ok (.getfield 36, 3) := by decide +kernel
theorem dX6_combine_111 : decode cX6_combine 111 = .ok (.ifCond .eq 5, 3) := by decide +kernel
theorem dX6_combine_114 : decode cX6_combine 114 = .ok (.lconst 0, 1) := by decide +kernel
theorem dX6_combine_115 : decode cX6_combine 115 = .ok (.lreturn, 1) := by decide +kernel
theorem dX6_combine_116 : decode cX6_combine 116 = .ok (.aload_n 0, 1) := by decide +kernel
theorem dX6_combine_117 : decode cX6_combine 117 = .ok (.invokevirtual 80, 3) := by decide +kernel
theorem dX6_combine_120 : decode cX6_combine 120 = .ok (.lstore 7, 2) := by decide +kernel
theorem dX6_combine_122 : decode cX6_combine 122 = .ok (.aload_n 0, 1) := by decide +kernel
theorem dX6_combine_123 : decode cX6_combine 123 = .ok (.getfield 71, 3) := by decide +kernel
theorem dX6_combine_126 : decode cX6_combine 126 = .ok (.istore 9, 2) := by decide +kernel
theorem dX6_combine_128 : decode cX6_combine 128 = .ok (.aload_n 0, 1) := by decide +kernel
theorem dX6_combine_129 : decode cX6_combine 129 = .ok (.getfield 68, 3) := by decide +kernel
theorem dX6_combine_132 : decode cX6_combine 132 = .ok (.istore 10, 2) := by decide +kernel
theorem dX6_combine_134 : decode cX6_combine 134 = .ok (.aload_n 0, 1) := by decide +kernel
theorem dX6_combine_135 : decode cX6_combine 135 = .ok (.aload_n 0, 1) := by decide +kernel
theorem dX6_combine_136 : decode cX6_combine 136 = .ok (.aload_n 0, 1) := by decide +kernel
theorem dX6_combine_137 : decode cX6_combine 137 = .ok (.getfield 7, 3) := by decide +kernel
theorem dX6_combine_140 : decode cX6_combine 140 = .ok (.iload 4, 2) := by decide +kernel
theorem dX6_combine_142 : decode cX6_combine 142 = .ok (.iaload, 1) := by decide +kernel
theorem dX6_combine_143 : decode cX6_combine 143 = .ok (.iload 5, 2) := by decide +kernel
theorem dX6_combine_145 : decode cX6_combine 145 = .ok (.invokevirtual 87, 3) := by decide +kernel
theorem dX6_combine_148 : decode cX6_combine 148 = .ok (.putfield 36, 3) := by decide +kernel
theorem dX6_combine_151 : decode cX6_combine 151 = .ok (.aload_n 0, 1) := by decide +kernel
theorem dX6_combine_152 : decode cX6_combine 152 = .ok (.getfield 36, 3) := by decide +kernel
theorem dX6_combine_155 : decode cX6_combine 155 = .ok (.ifCond .eq 5, 3) := by decide +kernel
theorem dX6_combine_158 : decode cX6_combine 158 = .ok (.lconst 0, 1) := by decide +kernel
theorem dX6_combine_159 : decode cX6_combine 159 = .ok (.lreturn, 1) := by decide +kernel
theorem dX6_combine_160 : decode cX6_combine 160 = .ok (.aload_n 0, 1) := by decide +kernel
theorem dX6_combine_161 : decode cX6_combine 161 = .ok (.invokevirtual 80, 3) := by decide +kernel
theorem dX6_combine_164 : decode cX6_combine 164 = .ok (.lstore 11, 2) := by decide +kernel
theorem dX6_combine_166 : decode cX6_combine 166 = .ok (.aload_n 0, 1) := by decide +kernel
theorem dX6_combine_167 : decode cX6_combine 167 = .ok (.iload_n 1, 1) := by decide +kernel
theorem dX6_combine_168 : decode cX6_combine 168 = .ok (.iconst 3, 1) := by decide +kernel
theorem dX6_combine_169 : decode cX6_combine 169 = .ok (.if_icmp .lt 10, 3) := by decide +kernel
theorem dX6_combine_172 : decode cX6_combine 172 = .ok (.lload 11, 2) := by decide +kernel
theorem dX6_combine_174 : decode cX6_combine 174 = .ok (.lconst 0, 1) := by decide +kernel
theorem dX6_combine_175 : decode cX6_combine 175 = .ok (.lcmp, 1) := by decide +kernel
theorem dX6_combine_176 : decode cX6_combine 176 = .ok (.ifCond .eq 7, 3) := by decide +kernel
theorem dX6_combine_179 : decode cX6_combine 179 = .ok (.iconst 1, 1) := by decide +kernel
theorem dX6_combine_180 : decode cX6_combine 180 = .ok (.goto 4, 3) := by decide +kernel
theorem dX6_combine_183 : decode cX6_combine 183 = .ok (.iconst 0, 1) := by decide +kernel
theorem dX6_combine_184 : decode cX6_combine 184 = .ok (.iconst 5, 1) := by decide +kernel
theorem dX6_combine_185 : decode cX6_combine 185 = .ok (.invokevirtual 44, 3) := by decide +kernel
theorem dX6_combine_188 : decode cX6_combine 188 = .ok (.ifCond .ne 5, 3) := by decide +kernel
theorem dX6_combine_191 : decode cX6_combine 191 = .ok (.lconst 0, 1) := by decide +kernel
theorem dX6_combine_192 : decode cX6_combine 192 = .ok (.lreturn, 1) := by decide +kernel
theorem dX6_combine_193 : decode cX6_combine 193 = .ok (.iload_n 1, 1) := by decide +kernel
theorem dX6_combine_194 : decode cX6_combine 194 = .ok (.lload 7, 2) := by decide +kernel
theorem dX6_combine_196 : decode cX6_combine 196 = .ok (.lload 11, 2) := by decide +kernel
theorem dX6_combine_198 : decode cX6_combine 198 = .ok (.invokestatic 114, 3) := by decide +kernel
theorem dX6_combine_201 : decode cX6_combine 201 = .ok (.lstore 13, 2) := by decide +kernel
theorem dX6_combine_203 : decode cX6_combine 203 = .ok (.aload_n 0, 1) := by decide +kernel
theorem dX6_combine_204 : decode cX6_combine 204 = .ok (.iload 9, 2) := by decide +kernel
theorem dX6_combine_206 : decode cX6_combine 206 = .ok (.putfield 71, 3) := by decide +kernel
theorem dX6_combine_209 : decode cX6_combine 209 = .ok (.aload_n 0, 1) := by decide +kernel
theorem dX6_combine_210 : decode cX6_combine 210 = .ok (.iload 10, 2) := by decide +kernel
theorem dX6_combine_212 : decode cX6_combine 212 = .ok (.putfield 68, 3) := by decide +kernel
theorem dX6_combine_215 : decode cX6_combine 215 = .ok (.aload_n 0, 1) := by decide +kernel
theorem dX6_combine_216 : decode cX6_combine 216 = .ok (.iload 6, 2) := by decide +kernel
theorem dX6_combine_218 : decode cX6_combine 218 = .ok (.ifCond .eq 10, 3) := by decide +kernel
theorem dX6_combine_221 : decode cX6_combine 221 = .ok (.lload 13, 2) := by decide +kernel
theorem dX6_combine_223 : decode cX6_combine 223 = .ok (.l2i, 1) := by decide +kernel
theorem dX6_combine_224 : decode cX6_combine 224 = .ok (.i2l, 1) := by decide +kernel
theorem dX6_combine_225 : decode cX6_combine 225 = .ok (.goto 5, 3) := by decide +kernel
theorem dX6_combine_228 : decode cX6_combine 228 = .ok (.lload 13, 2) := by decide +kernel
theorem dX6_combine_230 : decode cX6_combine 230 = .ok (.invokevirtual 94, 3) := by decide +kernel
theorem dX6_combine_233 : decode cX6_combine 233 = .ok (.lreturn, 1) := by decide +kernel
theorem dX6_move_0 : decode cX6_move 0 = .ok (.aload_n 0, 1) := by decide +kernel
theorem dX6_move_1 : decode cX6_move 1 = .ok (.iload_n 1, 1) := by decide +kernel
theorem dX6_move_2 : decode cX6_move 2 = .ok (.iconst 0, 1) := by decide +kernel
theorem dX6_move_3 : decode cX6_move 3 = .ok (.bipush 7, 2) := by decide +kernel
theorem dX6_move_5 : decode cX6_move 5 = .ok (.invokestatic 40, 3) := by decide +kernel
theorem dX6_move_8 : decode cX6_move 8 = .ok (.ifCond .eq 28, 3) := by decide +kernel
theorem dX6_move_11 : decode cX6_move 11 = .ok (.iload_n 3, 1) := by decide +kernel
theorem dX6_move_12 : decode cX6_move 12 = .ok (.iconst 0, 1) := by decide +kernel
theorem dX6_move_13 : decode cX6_move 13 = .ok (.bipush 7, 2) := by decide +kernel
theorem dX6_move_15 : decode cX6_move 15 = .ok (.invokestatic 40, 3) := by decide +kernel
theorem dX6_move_18 : decode cX6_move 18 = .ok (.ifCond .eq 18, 3) := by decide +kernel
theorem dX6_move_21 : decode cX6_move 21 = .ok (.iload 5, 2) := by decide +kernel
theorem dX6_move_23 : decode cX6_move 23 = .ok (.iconst 0, 1) := by decide +kernel
theorem dX6_move_24 : decode cX6_move 24 = .ok (.bipush 24, 2) := by decide +kernel
theorem dX6_move_26 : decode cX6_move 26 = .ok (.invokestatic 40, 3) := by decide +kernel
theorem dX6_move_29 : decode cX6_move 29 = .ok (.ifCond .eq 7, 3) := by decide +kernel
theorem dX6_move_32 : decode cX6_move 32 = .ok (.iconst 1, 1) := by decide +kernel
theorem dX6_move_33 : decode cX6_move 33 = .ok (.goto 4, 3) := by decide +kernel
theorem dX6_move_36 : decode cX6_move 36 = .ok (.iconst 0, 1) := by decide +kernel
theorem dX6_move_37 : decode cX6_move 37 = .ok (.iconst 1, 1) := by decide +kernel
theorem dX6_move_38 : decode cX6_move 38 = .ok (.invokevirtual 44, 3) := by decide +kernel
theorem dX6_move_41 : decode cX6_move 41 = .ok (.ifCond .eq 14, 3) := by decide +kernel
theorem dX6_move_44 : decode cX6_move 44 = .ok (.aload_n 0, 1) := by decide +kernel
theorem dX6_move_45 : decode cX6_move 45 = .ok (.iload_n 1, 1) := by decide +kernel
theorem dX6_move_46 : decode cX6_move 46 = .ok (.iload_n 3, 1) := by decide +kernel
theorem dX6_move_47 : decode cX6_move 47 = .ok (.bipush 7, 2) := by decide +kernel
theorem dX6_move_49 : decode cX6_move 49 = .ok (.invokevirtual 111, 3) := by decide +kernel
theorem dX6_move_52 : decode cX6_move 52 = .ok (.ifCond .ne 5, 3) := by decide +kernel
theorem dX6_move_55 : decode cX6_move 55 = .ok (.iconst 0, 1) := by decide +kernel
theorem dX6_move_56 : decode cX6_move 56 = .ok (.ireturn, 1) := by decide +kernel
theorem dX6_move_57 : decode cX6_move 57 = .ok (.iconst 0, 1) := by decide +kernel
theorem dX6_move_58 : decode cX6_move 58 = .ok (.istore 6, 2) := by decide +kernel
theorem dX6_move_60 : decode cX6_move 60 = .ok (.iload 6, 2) := by decide +kernel
theorem dX6_move_62 : decode cX6_move 62 = .ok (.iload 5, 2) := by decide +kernel
theorem dX6_move_64 : decode cX6_move 64 = .ok (.if_icmp .ge 77, 3) := by decide +kernel
theorem dX6_move_67 : decode cX6_move 67 = .ok (.aload_n 0, 1) := by decide +kernel
theorem dX6_move_68 : decode cX6_move 68 = .ok (.aload_n 0, 1) := by decide +kernel
theorem dX6_move_69 : decode cX6_move 69 = .ok (.aload_n 0, 1) := by decide +kernel
theorem dX6_move_70 : decode cX6_move 70 = .ok (.getfield 7, 3) := by decide +kernel
theorem dX6_move_73 : decode cX6_move 73 = .ok (.iload_n 3, 1) := by decide +kernel
theorem dX6_move_74 : decode cX6_move 74 = .ok (.iaload, 1) := by decide +kernel
theorem dX6_move_75 : decode cX6_move 75 = .ok (.iload 4, 2) := by decide +kernel
theorem dX6_move_77 : decode cX6_move 77 = .ok (.iload 6, 2) := by decide +kernel
theorem dX6_move_79 : decode cX6_move 79 = .ok (.iadd, 1) := by decide +kernel
theorem dX6_move_80 : decode cX6_move 80 = .ok (.invokevirtual 87, 3) := by decide +kernel
theorem dX6_move_83 : decode cX6_move 83 = .ok (.putfield 36, 3) := by decide +kernel
theorem dX6_move_86 : decode cX6_move 86 = .ok (.aload_n 0, 1) := by decide +kernel
theorem dX6_move_87 : decode cX6_move 87 = .ok (.getfield 36, 3) := by decide +kernel
theorem dX6_move_90 : decode cX6_move 90 = .ok (.ifCond .eq 5, 3) := by decide +kernel
theorem dX6_move_93 : decode cX6_move 93 = .ok (.iconst 0, 1) := by decide +kernel
theorem dX6_move_94 : decode cX6_move 94 = .ok (.ireturn, 1) := by decide +kernel
theorem dX6_move_95 : decode cX6_move 95 = .ok (.aload_n 0, 1) := by decide +kernel
theorem dX6_move_96 : decode cX6_move 96 = .ok (.invokevirtual 80, 3) := by decide +kernel
theorem dX6_move_99 : decode cX6_move 99 = .ok (.lstore 7, 2) := by decide +kernel
theorem dX6_move_101 : decode cX6_move 101 = .ok (.aload_n 0, 1) := by decide +kernel
theorem dX6_move_102 : decode cX6_move 102 = .ok (.aload_n 0, 1) := by decide +kernel
theorem dX6_move_103 : decode cX6_move 103 = .ok (.aload_n 0, 1) := by decide +kernel
theorem dX6_move_104 : decode cX6_move 104 = .ok (.getfield 7, 3) := by decide +kernel
theorem dX6_move_107 : decode cX6_move 107 = .ok (.iload_n 1, 1) := by decide +kernel
theorem dX6_move_108 : decode cX6_move 108 = .ok (.iaload, 1) := by decide +kernel
theorem dX6_move_109 : decode cX6_move 109 = .ok (.iload_n 2, 1) := by decide +kernel
theorem dX6_move_110 : decode cX6_move 110 = .ok (.iload 6, 2) := by decide +kernel
theorem dX6_move_112 : decode cX6_move 112 = .ok (.iadd, 1) := by decide +kernel
theorem dX6_move_113 : decode cX6_move 113 = .ok (.invokevirtual 87, 3) := by decide +kernel
theorem dX6_move_116 : decode cX6_move 116 = .ok (.putfield 36, 3) := by decide +kernel
theorem dX6_move_119 : decode cX6_move 119 = .ok (.aload_n 0, 1) := by decide +kernel
theorem dX6_move_120 : decode cX6_move 120 = .ok (.getfield 36, 3) := by decide +kernel
theorem dX6_move_123 : decode cX6_move 123 = .ok (.ifCond .eq 5, 3) := by decide +kernel
theorem dX6_move_126 : decode cX6_move 126 = .ok (.iconst 0, 1) := by decide +kernel
theorem dX6_move_127 : decode cX6_move 127 = .ok (.ireturn, 1) := by decide +kernel
theorem dX6_move_128 : decode cX6_move 128 = .ok (.aload_n 0, 1) := by decide +kernel
theorem dX6_move_129 : decode cX6_move 129 = .ok (.lload 7, 2) := by decide +kernel
theorem dX6_move_131 : decode cX6_move 131 = .ok (.invokevirtual 94, 3) := by decide +kernel
theorem dX6_move_134 : decode cX6_move 134 = .ok (.pop2, 1) := by decide +kernel
theorem dX6_move_135 : decode cX6_move 135 = .ok (.iinc 6 1, 3) := by decide +kernel
theorem dX6_move_138 : decode cX6_move 138 = .ok (.goto (-78), 3) := by decide +kernel
theorem dX6_move_141 : decode cX6_move 141 = .ok (.iload 5, 2) := by decide +kernel
theorem dX6_move_143 : decode cX6_move 143 = .ok (.ireturn, 1) := by decide +kernel
theorem dJx00060_init_a7421_0 : decode cJx00060_init_a7421 0 = .ok (.aload_n 0, 1) := by decide +kernel
theorem dJx00060_init_a7421_1 : decode cJx00060_init_a7421 1 = .ok (.aload_n 1, 1) := by decide +kernel
theorem dJx00060_init_a7421_2 : decode cJx00060_init_a7421 2 = .ok (.invokespecial 7, 3) := by decide +kernel
theorem dJx00060_init_a7421_5 : decode cJx00060_init_a7421 5 = .ok (.return_, 1) := by decide +kernel
theorem dJ9_min_7cf53_0 : decode cJ9_min_7cf53 0 = .ok (.iload_n 0, 1) := by decide +kernel
theorem dJ9_min_7cf53_1 : decode cJ9_min_7cf53 1 = .ok (.iload_n 1, 1) := by decide +kernel
theorem dJ9_min_7cf53_2 : decode cJ9_min_7cf53 2 = .ok (.if_icmp .gt 7, 3) := by decide +kernel
theorem dJ9_min_7cf53_5 : decode cJ9_min_7cf53 5 = .ok (.iload_n 0, 1) := by decide +kernel
theorem dJ9_min_7cf53_6 : decode cJ9_min_7cf53 6 = .ok (.goto 4, 3) := by decide +kernel
theorem dJ9_min_7cf53_9 : decode cJ9_min_7cf53 9 = .ok (.iload_n 1, 1) := by decide +kernel
theorem dJ9_min_7cf53_10 : decode cJ9_min_7cf53 10 = .ok (.ireturn, 1) := by decide +kernel
theorem dJxde1cd_init_a7421_0 : decode cJxde1cd_init_a7421 0 = .ok (.aload_n 0, 1) := by decide +kernel
theorem dJxde1cd_init_a7421_1 : decode cJxde1cd_init_a7421 1 = .ok (.aload_n 1, 1) := by decide +kernel
theorem dJxde1cd_init_a7421_2 : decode cJxde1cd_init_a7421 2 = .ok (.invokespecial 7, 3) := by decide +kernel
theorem dJxde1cd_init_a7421_5 : decode cJxde1cd_init_a7421 5 = .ok (.return_, 1) := by decide +kernel
theorem dJx5d777_init_da8c8_0 : decode cJx5d777_init_da8c8 0 = .ok (.aload_n 0, 1) := by decide +kernel
theorem dJx5d777_init_da8c8_1 : decode cJx5d777_init_da8c8 1 = .ok (.invokespecial 1, 3) := by decide +kernel
theorem dJx5d777_init_da8c8_4 : decode cJx5d777_init_da8c8 4 = .ok (.return_, 1) := by decide +kernel
theorem dJx5d777_fillInStackTrace_cddbd_0 : decode cJx5d777_fillInStackTrace_cddbd 0 = .ok (.aload_n 0, 1) := by decide +kernel
theorem dJx5d777_fillInStackTrace_cddbd_1 : decode cJx5d777_fillInStackTrace_cddbd 1 = .ok (.getfield 10, 3) := by decide +kernel
theorem dJx5d777_fillInStackTrace_cddbd_4 : decode cJx5d777_fillInStackTrace_cddbd 4 = .ok (.ifCond .ne 11, 3) := by decide +kernel
theorem dJx5d777_fillInStackTrace_cddbd_7 : decode cJx5d777_fillInStackTrace_cddbd 7 = .ok (.aload_n 0, 1) := by decide +kernel
theorem dJx5d777_fillInStackTrace_cddbd_8 : decode cJx5d777_fillInStackTrace_cddbd 8 = .ok (.iconst 1, 1) := by decide +kernel
theorem dJx5d777_fillInStackTrace_cddbd_9 : decode cJx5d777_fillInStackTrace_cddbd 9 = .ok (.putfield 10, 3) := by decide +kernel
theorem dJx5d777_fillInStackTrace_cddbd_12 : decode cJx5d777_fillInStackTrace_cddbd 12 = .ok (.goto 24, 3) := by decide +kernel
theorem dJx5d777_fillInStackTrace_cddbd_15 : decode cJx5d777_fillInStackTrace_cddbd 15 = .ok (.aload_n 0, 1) := by decide +kernel
theorem dJx5d777_fillInStackTrace_cddbd_16 : decode cJx5d777_fillInStackTrace_cddbd 16 = .ok (.getfield 10, 3) := by decide +kernel
theorem dJx5d777_fillInStackTrace_cddbd_19 : decode cJx5d777_fillInStackTrace_cddbd 19 = .ok (.iconst 1, 1) := by decide +kernel
theorem dJx5d777_fillInStackTrace_cddbd_20 : decode cJx5d777_fillInStackTrace_cddbd 20 = .ok (.if_icmp .ne 16, 3) := by decide +kernel
theorem dJx5d777_fillInStackTrace_cddbd_23 : decode cJx5d777_fillInStackTrace_cddbd 23 = .ok (.aload_n 0, 1) := by decide +kernel
theorem dJx5d777_fillInStackTrace_cddbd_24 : decode cJx5d777_fillInStackTrace_cddbd 24 = .ok (.aload_n 0, 1) := by decide +kernel
theorem dJx5d777_fillInStackTrace_cddbd_25 : decode cJx5d777_fillInStackTrace_cddbd 25 = .ok (.invokevirtual 16, 3) := by decide +kernel
theorem dJx5d777_fillInStackTrace_cddbd_28 : decode cJx5d777_fillInStackTrace_cddbd 28 = .ok (.putfield 20, 3) := by decide +kernel
theorem dJx5d777_fillInStackTrace_cddbd_31 : decode cJx5d777_fillInStackTrace_cddbd 31 = .ok (.aload_n 0, 1) := by decide +kernel
theorem dJx5d777_fillInStackTrace_cddbd_32 : decode cJx5d777_fillInStackTrace_cddbd 32 = .ok (.iconst 2, 1) := by decide +kernel
theorem dJx5d777_fillInStackTrace_cddbd_33 : decode cJx5d777_fillInStackTrace_cddbd 33 = .ok (.putfield 10, 3) := by decide +kernel
theorem dJx5d777_fillInStackTrace_cddbd_36 : decode cJx5d777_fillInStackTrace_cddbd 36 = .ok (.aload_n 0, 1) := by decide +kernel
theorem dJx5d777_fillInStackTrace_cddbd_37 : decode cJx5d777_fillInStackTrace_cddbd 37 = .ok (.invokespecial 24, 3) := by decide +kernel
theorem dJx5d777_fillInStackTrace_cddbd_40 : decode cJx5d777_fillInStackTrace_cddbd 40 = .ok (.areturn, 1) := by decide +kernel
theorem dJ7_copyOf_c38d5_0 : decode cJ7_copyOf_c38d5 0 = .ok (.iload_n 1, 1) := by decide +kernel
theorem dJ7_copyOf_c38d5_1 : decode cJ7_copyOf_c38d5 1 = .ok (.aload_n 0, 1) := by decide +kernel
theorem dJ7_copyOf_c38d5_2 : decode cJ7_copyOf_c38d5 2 = .ok (.arraylength, 1) := by decide +kernel
theorem dJ7_copyOf_c38d5_3 : decode cJ7_copyOf_c38d5 3 = .ok (.if_icmp .ne 11, 3) := by decide +kernel
theorem dJ7_copyOf_c38d5_6 : decode cJ7_copyOf_c38d5 6 = .ok (.aload_n 0, 1) := by decide +kernel
theorem dJ7_copyOf_c38d5_7 : decode cJ7_copyOf_c38d5 7 = .ok (.invokevirtual 319, 3) := by decide +kernel
theorem dJ7_copyOf_c38d5_10 : decode cJ7_copyOf_c38d5 10 = .ok (.checkcast 320, 3) := by decide +kernel
theorem dJ7_copyOf_c38d5_13 : decode cJ7_copyOf_c38d5 13 = .ok (.areturn, 1) := by decide +kernel
theorem dJ7_copyOf_c38d5_14 : decode cJ7_copyOf_c38d5 14 = .ok (.iload_n 1, 1) := by decide +kernel
theorem dJ7_copyOf_c38d5_15 : decode cJ7_copyOf_c38d5 15 = .ok (.newarray .long, 2) := by decide +kernel
theorem dJ7_copyOf_c38d5_17 : decode cJ7_copyOf_c38d5 17 = .ok (.astore_n 2, 1) := by decide +kernel
theorem dJ7_copyOf_c38d5_18 : decode cJ7_copyOf_c38d5 18 = .ok (.aload_n 0, 1) := by decide +kernel
theorem dJ7_copyOf_c38d5_19 : decode cJ7_copyOf_c38d5 19 = .ok (.iconst 0, 1) := by decide +kernel
theorem dJ7_copyOf_c38d5_20 : decode cJ7_copyOf_c38d5 20 = .ok (.aload_n 2, 1) := by decide +kernel
theorem dJ7_copyOf_c38d5_21 : decode cJ7_copyOf_c38d5 21 = .ok (.iconst 0, 1) := by decide +kernel
theorem dJ7_copyOf_c38d5_22 : decode cJ7_copyOf_c38d5 22 = .ok (.aload_n 0, 1) := by decide +kernel
theorem dJ7_copyOf_c38d5_23 : decode cJ7_copyOf_c38d5 23 = .ok (.arraylength, 1) := by decide +kernel
theorem dJ7_copyOf_c38d5_24 : decode cJ7_copyOf_c38d5 24 = .ok (.iload_n 1, 1) := by decide +kernel
theorem dJ7_copyOf_c38d5_25 : decode cJ7_copyOf_c38d5 25 = .ok (.invokestatic 304, 3) := by decide +kernel
theorem dJ7_copyOf_c38d5_28 : decode cJ7_copyOf_c38d5 28 = .ok (.invokestatic 150, 3) := by decide +kernel
theorem dJ7_copyOf_c38d5_31 : decode cJ7_copyOf_c38d5 31 = .ok (.aload_n 2, 1) := by decide +kernel
theorem dJ7_copyOf_c38d5_32 : decode cJ7_copyOf_c38d5 32 = .ok (.areturn, 1) := by decide +kernel
theorem dL_make_0 : decode cL_make 0 = .ok (.aload 4, 2) := by decide +kernel
theorem dL_make_2 : decode cL_make 2 = .ok (.iconst 0, 1) := by decide +kernel
theorem dL_make_3 : decode cL_make 3 = .ok (.aload_n 0, 1) := by decide +kernel
theorem dL_make_4 : decode cL_make 4 = .ok (.iload_n 1, 1) := by decide +kernel
theorem dL_make_5 : decode cL_make 5 = .ok (.iload_n 2, 1) := by decide +kernel
theorem dL_make_6 : decode cL_make 6 = .ok (.iload_n 3, 1) := by decide +kernel
theorem dL_make_7 : decode cL_make 7 = .ok (.invokevirtual 7, 3) := by decide +kernel
theorem dL_make_10 : decode cL_make 10 = .ok (.i2l, 1) := by decide +kernel
theorem dL_make_11 : decode cL_make 11 = .ok (.lastore, 1) := by decide +kernel
theorem dL_make_12 : decode cL_make 12 = .ok (.goto 11, 3) := by decide +kernel
theorem dL_make_15 : decode cL_make 15 = .ok (.astore 5, 2) := by decide +kernel
theorem dL_make_17 : decode cL_make 17 = .ok (.iconst 1, 1) := by decide +kernel
theorem dL_make_18 : decode cL_make 18 = .ok (.ireturn, 1) := by decide +kernel
theorem dL_make_19 : decode cL_make 19 = .ok (.astore 5, 2) := by decide +kernel
theorem dL_make_21 : decode cL_make 21 = .ok (.iconst 2, 1) := by decide +kernel
theorem dL_make_22 : decode cL_make 22 = .ok (.ireturn, 1) := by decide +kernel
theorem dL_make_23 : decode cL_make 23 = .ok (.iconst 0, 1) := by decide +kernel
theorem dL_make_24 : decode cL_make 24 = .ok (.ireturn, 1) := by decide +kernel
theorem dL_grid_0 : decode cL_grid 0 = .ok (.aload 4, 2) := by decide +kernel
theorem dL_grid_2 : decode cL_grid 2 = .ok (.iconst 0, 1) := by decide +kernel
theorem dL_grid_3 : decode cL_grid 3 = .ok (.aload_n 0, 1) := by decide +kernel
theorem dL_grid_4 : decode cL_grid 4 = .ok (.iload_n 1, 1) := by decide +kernel
theorem dL_grid_5 : decode cL_grid 5 = .ok (.iload_n 2, 1) := by decide +kernel
theorem dL_grid_6 : decode cL_grid 6 = .ok (.iload_n 3, 1) := by decide +kernel
theorem dL_grid_7 : decode cL_grid 7 = .ok (.invokevirtual 17, 3) := by decide +kernel
theorem dL_grid_10 : decode cL_grid 10 = .ok (.i2l, 1) := by decide +kernel
theorem dL_grid_11 : decode cL_grid 11 = .ok (.lastore, 1) := by decide +kernel
theorem dL_grid_12 : decode cL_grid 12 = .ok (.goto 11, 3) := by decide +kernel
theorem dL_grid_15 : decode cL_grid 15 = .ok (.astore 5, 2) := by decide +kernel
theorem dL_grid_17 : decode cL_grid 17 = .ok (.iconst 1, 1) := by decide +kernel
theorem dL_grid_18 : decode cL_grid 18 = .ok (.ireturn, 1) := by decide +kernel
theorem dL_grid_19 : decode cL_grid 19 = .ok (.astore 5, 2) := by decide +kernel
theorem dL_grid_21 : decode cL_grid 21 = .ok (.iconst 2, 1) := by decide +kernel
theorem dL_grid_22 : decode cL_grid 22 = .ok (.ireturn, 1) := by decide +kernel
theorem dL_grid_23 : decode cL_grid 23 = .ok (.iconst 0, 1) := by decide +kernel
theorem dL_grid_24 : decode cL_grid 24 = .ok (.ireturn, 1) := by decide +kernel
theorem dL_record_0 : decode cL_record 0 = .ok (.aload_n 2, 1) := by decide +kernel
theorem dL_record_1 : decode cL_record 1 = .ok (.iconst 0, 1) := by decide +kernel
theorem dL_record_2 : decode cL_record 2 = .ok (.aload_n 0, 1) := by decide +kernel
theorem dL_record_3 : decode cL_record 3 = .ok (.iload_n 1, 1) := by decide +kernel
theorem dL_record_4 : decode cL_record 4 = .ok (.invokevirtual 20, 3) := by decide +kernel
theorem dL_record_7 : decode cL_record 7 = .ok (.i2l, 1) := by decide +kernel
theorem dL_record_8 : decode cL_record 8 = .ok (.lastore, 1) := by decide +kernel
theorem dL_record_9 : decode cL_record 9 = .ok (.goto 6, 3) := by decide +kernel
theorem dL_record_12 : decode cL_record 12 = .ok (.astore_n 3, 1) := by decide +kernel
theorem dL_record_13 : decode cL_record 13 = .ok (.iconst 1, 1) := by decide +kernel
theorem dL_record_14 : decode cL_record 14 = .ok (.ireturn, 1) := by decide +kernel
theorem dL_record_15 : decode cL_record 15 = .ok (.iconst 0, 1) := by decide +kernel
theorem dL_record_16 : decode cL_record 16 = .ok (.ireturn, 1) := by decide +kernel
theorem dL_window_0 : decode cL_window 0 = .ok (.aload 4, 2) := by decide +kernel
theorem dL_window_2 : decode cL_window 2 = .ok (.iconst 0, 1) := by decide +kernel
theorem dL_window_3 : decode cL_window 3 = .ok (.aload_n 0, 1) := by decide +kernel
theorem dL_window_4 : decode cL_window 4 = .ok (.iload_n 1, 1) := by decide +kernel
theorem dL_window_5 : decode cL_window 5 = .ok (.iload_n 2, 1) := by decide +kernel
theorem dL_window_6 : decode cL_window 6 = .ok (.iload_n 3, 1) := by decide +kernel
theorem dL_window_7 : decode cL_window 7 = .ok (.invokevirtual 24, 3) := by decide +kernel
theorem dL_window_10 : decode cL_window 10 = .ok (.i2l, 1) := by decide +kernel
theorem dL_window_11 : decode cL_window 11 = .ok (.lastore, 1) := by decide +kernel
theorem dL_window_12 : decode cL_window 12 = .ok (.goto 19, 3) := by decide +kernel
theorem dL_window_15 : decode cL_window 15 = .ok (.astore 5, 2) := by decide +kernel
theorem dL_window_17 : decode cL_window 17 = .ok (.iconst 1, 1) := by decide +kernel
theorem dL_window_18 : decode cL_window 18 = .ok (.ireturn, 1) := by decide +kernel
theorem dL_window_19 : decode cL_window 19 = .ok (.astore 5, 2) := by decide +kernel
theorem dL_window_21 : decode cL_window 21 = .ok (.iconst 2, 1) := by decide +kernel
theorem dL_window_22 : decode cL_window 22 = .ok (.ireturn, 1) := by decide +kernel
theorem dL_window_23 : decode cL_window 23 = .ok (.astore 5, 2) := by decide +kernel
theorem dL_window_25 : decode cL_window 25 = .ok (.iconst 3, 1) := by decide +kernel
theorem dL_window_26 : decode cL_window 26 = .ok (.ireturn, 1) := by decide +kernel
theorem dL_window_27 : decode cL_window 27 = .ok (.astore 5, 2) := by decide +kernel
theorem dL_window_29 : decode cL_window 29 = .ok (.iconst 4, 1) := by decide +kernel
theorem dL_window_30 : decode cL_window 30 = .ok (.ireturn, 1) := by decide +kernel
theorem dL_window_31 : decode cL_window 31 = .ok (.iconst 0, 1) := by decide +kernel
theorem dL_window_32 : decode cL_window 32 = .ok (.ireturn, 1) := by decide +kernel
theorem dL_copy_0 : decode cL_copy 0 = .ok (.aload_n 3, 1) := by decide +kernel
theorem dL_copy_1 : decode cL_copy 1 = .ok (.iconst 0, 1) := by decide +kernel
theorem dL_copy_2 : decode cL_copy 2 = .ok (.aload_n 0, 1) := by decide +kernel
theorem dL_copy_3 : decode cL_copy 3 = .ok (.iload_n 1, 1) := by decide +kernel
theorem dL_copy_4 : decode cL_copy 4 = .ok (.iload_n 2, 1) := by decide +kernel
theorem dL_copy_5 : decode cL_copy 5 = .ok (.invokevirtual 33, 3) := by decide +kernel
theorem dL_copy_8 : decode cL_copy 8 = .ok (.ifCond .eq 7, 3) := by decide +kernel
theorem dL_copy_11 : decode cL_copy 11 = .ok (.lconst 1, 1) := by decide +kernel
theorem dL_copy_12 : decode cL_copy 12 = .ok (.goto 4, 3) := by decide +kernel
theorem dL_copy_15 : decode cL_copy 15 = .ok (.lconst 0, 1) := by decide +kernel
theorem dL_copy_16 : decode cL_copy 16 = .ok (.lastore, 1) := by decide +kernel
theorem dL_copy_17 : decode cL_copy 17 = .ok (.goto 7, 3) := by decide +kernel
theorem dL_copy_20 : decode cL_copy 20 = .ok (.astore 4, 2) := by decide +kernel
theorem dL_copy_22 : decode cL_copy 22 = .ok (.iconst 1, 1) := by decide +kernel
theorem dL_copy_23 : decode cL_copy 23 = .ok (.ireturn, 1) := by decide +kernel
theorem dL_copy_24 : decode cL_copy 24 = .ok (.iconst 0, 1) := by decide +kernel
theorem dL_copy_25 : decode cL_copy 25 = .ok (.ireturn, 1) := by decide +kernel
theorem dL_lose_0 : decode cL_lose 0 = .ok (.aload_n 3, 1) := by decide +kernel
theorem dL_lose_1 : decode cL_lose 1 = .ok (.iconst 0, 1) := by decide +kernel
theorem dL_lose_2 : decode cL_lose 2 = .ok (.aload_n 0, 1) := by decide +kernel
theorem dL_lose_3 : decode cL_lose 3 = .ok (.iload_n 1, 1) := by decide +kernel
theorem dL_lose_4 : decode cL_lose 4 = .ok (.iload_n 2, 1) := by decide +kernel
theorem dL_lose_5 : decode cL_lose 5 = .ok (.invokevirtual 37, 3) := by decide +kernel
theorem dL_lose_8 : decode cL_lose 8 = .ok (.i2l, 1) := by decide +kernel
theorem dL_lose_9 : decode cL_lose 9 = .ok (.lastore, 1) := by decide +kernel
theorem dL_lose_10 : decode cL_lose 10 = .ok (.goto 19, 3) := by decide +kernel
theorem dL_lose_13 : decode cL_lose 13 = .ok (.astore 4, 2) := by decide +kernel
theorem dL_lose_15 : decode cL_lose 15 = .ok (.iconst 1, 1) := by decide +kernel
theorem dL_lose_16 : decode cL_lose 16 = .ok (.ireturn, 1) := by decide +kernel
theorem dL_lose_17 : decode cL_lose 17 = .ok (.astore 4, 2) := by decide +kernel
theorem dL_lose_19 : decode cL_lose 19 = .ok (.iconst 2, 1) := by decide +kernel
theorem dL_lose_20 : decode cL_lose 20 = .ok (.ireturn, 1) := by decide +kernel
theorem dL_lose_21 : decode cL_lose 21 = .ok (.astore 4, 2) := by decide +kernel
theorem dL_lose_23 : decode cL_lose 23 = .ok (.iconst 3, 1) := by decide +kernel
theorem dL_lose_24 : decode cL_lose 24 = .ok (.ireturn, 1) := by decide +kernel
theorem dL_lose_25 : decode cL_lose 25 = .ok (.astore 4, 2) := by decide +kernel
theorem dL_lose_27 : decode cL_lose 27 = .ok (.iconst 4, 1) := by decide +kernel
theorem dL_lose_28 : decode cL_lose 28 = .ok (.ireturn, 1) := by decide +kernel
theorem dL_lose_29 : decode cL_lose 29 = .ok (.iconst 0, 1) := by decide +kernel
theorem dL_lose_30 : decode cL_lose 30 = .ok (.ireturn, 1) := by decide +kernel
theorem dL_resize_0 : decode cL_resize 0 = .ok (.aload_n 3, 1) := by decide +kernel
theorem dL_resize_1 : decode cL_resize 1 = .ok (.iconst 0, 1) := by decide +kernel
theorem dL_resize_2 : decode cL_resize 2 = .ok (.aload_n 0, 1) := by decide +kernel
theorem dL_resize_3 : decode cL_resize 3 = .ok (.iload_n 1, 1) := by decide +kernel
theorem dL_resize_4 : decode cL_resize 4 = .ok (.iload_n 2, 1) := by decide +kernel
theorem dL_resize_5 : decode cL_resize 5 = .ok (.invokevirtual 43, 3) := by decide +kernel
theorem dL_resize_8 : decode cL_resize 8 = .ok (.i2l, 1) := by decide +kernel
theorem dL_resize_9 : decode cL_resize 9 = .ok (.lastore, 1) := by decide +kernel
theorem dL_resize_10 : decode cL_resize 10 = .ok (.goto 19, 3) := by decide +kernel
theorem dL_resize_13 : decode cL_resize 13 = .ok (.astore 4, 2) := by decide +kernel
theorem dL_resize_15 : decode cL_resize 15 = .ok (.iconst 1, 1) := by decide +kernel
theorem dL_resize_16 : decode cL_resize 16 = .ok (.ireturn, 1) := by decide +kernel
theorem dL_resize_17 : decode cL_resize 17 = .ok (.astore 4, 2) := by decide +kernel
theorem dL_resize_19 : decode cL_resize 19 = .ok (.iconst 2, 1) := by decide +kernel
theorem dL_resize_20 : decode cL_resize 20 = .ok (.ireturn, 1) := by decide +kernel
theorem dL_resize_21 : decode cL_resize 21 = .ok (.astore 4, 2) := by decide +kernel
theorem dL_resize_23 : decode cL_resize 23 = .ok (.iconst 3, 1) := by decide +kernel
theorem dL_resize_24 : decode cL_resize 24 = .ok (.ireturn, 1) := by decide +kernel
theorem dL_resize_25 : decode cL_resize 25 = .ok (.astore 4, 2) := by decide +kernel
theorem dL_resize_27 : decode cL_resize 27 = .ok (.iconst 4, 1) := by decide +kernel
theorem dL_resize_28 : decode cL_resize 28 = .ok (.ireturn, 1) := by decide +kernel
theorem dL_resize_29 : decode cL_resize 29 = .ok (.iconst 0, 1) := by decide +kernel
theorem dL_resize_30 : decode cL_resize 30 = .ok (.ireturn, 1) := by decide +kernel
theorem dL_size_0 : decode cL_size 0 = .ok (.aload_n 2, 1) := by decide +kernel
theorem dL_size_1 : decode cL_size 1 = .ok (.iconst 0, 1) := by decide +kernel
theorem dL_size_2 : decode cL_size 2 = .ok (.aload_n 0, 1) := by decide +kernel
theorem dL_size_3 : decode cL_size 3 = .ok (.iload_n 1, 1) := by decide +kernel
theorem dL_size_4 : decode cL_size 4 = .ok (.invokevirtual 46, 3) := by decide +kernel
theorem dL_size_7 : decode cL_size 7 = .ok (.i2l, 1) := by decide +kernel
theorem dL_size_8 : decode cL_size 8 = .ok (.lastore, 1) := by decide +kernel
theorem dL_size_9 : decode cL_size 9 = .ok (.goto 12, 3) := by decide +kernel
theorem dL_size_12 : decode cL_size 12 = .ok (.astore_n 3, 1) := by decide +kernel
theorem dL_size_13 : decode cL_size 13 = .ok (.iconst 1, 1) := by decide +kernel
theorem dL_size_14 : decode cL_size 14 = .ok (.ireturn, 1) := by decide +kernel
theorem dL_size_15 : decode cL_size 15 = .ok (.astore_n 3, 1) := by decide +kernel
theorem dL_size_16 : decode cL_size 16 = .ok (.iconst 2, 1) := by decide +kernel
theorem dL_size_17 : decode cL_size 17 = .ok (.ireturn, 1) := by decide +kernel
theorem dL_size_18 : decode cL_size 18 = .ok (.astore_n 3, 1) := by decide +kernel
theorem dL_size_19 : decode cL_size 19 = .ok (.iconst 3, 1) := by decide +kernel
theorem dL_size_20 : decode cL_size 20 = .ok (.ireturn, 1) := by decide +kernel
theorem dL_size_21 : decode cL_size 21 = .ok (.iconst 0, 1) := by decide +kernel
theorem dL_size_22 : decode cL_size 22 = .ok (.ireturn, 1) := by decide +kernel
theorem dL_take_0 : decode cL_take 0 = .ok (.aload_n 3, 1) := by decide +kernel
theorem dL_take_1 : decode cL_take 1 = .ok (.iconst 0, 1) := by decide +kernel
theorem dL_take_2 : decode cL_take 2 = .ok (.aload_n 0, 1) := by decide +kernel
theorem dL_take_3 : decode cL_take 3 = .ok (.iload_n 1, 1) := by decide +kernel
end
section
theorem dL_take_4 : decode cL_take 4 = .ok (.iload_n 2, 1) := by decide +kernel
theorem dL_take_5 : decode cL_take 5 = .ok (.invokevirtual 49, 3) := by decide +kernel
theorem dL_take_8 : decode cL_take 8 = .ok (.lastore, 1) := by decide +kernel
theorem dL_take_9 : decode cL_take 9 = .ok (.goto 19, 3) := by decide +kernel
theorem dL_take_12 : decode cL_take 12 = .ok (.astore 4, 2) := by decide +kernel
theorem dL_take_14 : decode cL_take 14 = .ok (.iconst 1, 1) := by decide +kernel
theorem dL_take_15 : decode cL_take 15 = .ok (.ireturn, 1) := by decide +kernel
theorem dL_take_16 : decode cL_take 16 = .ok (.astore 4, 2) := by decide +kernel
theorem dL_take_18 : decode cL_take 18 = .ok (.iconst 2, 1) := by decide +kernel
theorem dL_take_19 : decode cL_take 19 = .ok (.ireturn, 1) := by decide +kernel
theorem dL_take_20 : decode cL_take 20 = .ok (.astore 4, 2) := by decide +kernel
theorem dL_take_22 : decode cL_take 22 = .ok (.iconst 3, 1) := by decide +kernel
theorem dL_take_23 : decode cL_take 23 = .ok (.ireturn, 1) := by decide +kernel
theorem dL_take_24 : decode cL_take 24 = .ok (.astore 4, 2) := by decide +kernel
theorem dL_take_26 : decode cL_take 26 = .ok (.iconst 4, 1) := by decide +kernel
theorem dL_take_27 : decode cL_take 27 = .ok (.ireturn, 1) := by decide +kernel
theorem dL_take_28 : decode cL_take 28 = .ok (.iconst 0, 1) := by decide +kernel
theorem dL_take_29 : decode cL_take 29 = .ok (.ireturn, 1) := by decide +kernel
theorem dL_put_0 : decode cL_put 0 = .ok (.aload 5, 2) := by decide +kernel
theorem dL_put_2 : decode cL_put 2 = .ok (.iconst 0, 1) := by decide +kernel
theorem dL_put_3 : decode cL_put 3 = .ok (.aload_n 0, 1) := by decide +kernel
theorem dL_put_4 : decode cL_put 4 = .ok (.iload_n 1, 1) := by decide +kernel
theorem dL_put_5 : decode cL_put 5 = .ok (.iload_n 2, 1) := by decide +kernel
theorem dL_put_6 : decode cL_put 6 = .ok (.lload_n 3, 1) := by decide +kernel
theorem dL_put_7 : decode cL_put 7 = .ok (.invokevirtual 53, 3) := by decide +kernel
theorem dL_put_10 : decode cL_put 10 = .ok (.lastore, 1) := by decide +kernel
theorem dL_put_11 : decode cL_put 11 = .ok (.goto 19, 3) := by decide +kernel
theorem dL_put_14 : decode cL_put 14 = .ok (.astore 6, 2) := by decide +kernel
theorem dL_put_16 : decode cL_put 16 = .ok (.iconst 1, 1) := by decide +kernel
theorem dL_put_17 : decode cL_put 17 = .ok (.ireturn, 1) := by decide +kernel
theorem dL_put_18 : decode cL_put 18 = .ok (.astore 6, 2) := by decide +kernel
theorem dL_put_20 : decode cL_put 20 = .ok (.iconst 2, 1) := by decide +kernel
theorem dL_put_21 : decode cL_put 21 = .ok (.ireturn, 1) := by decide +kernel
theorem dL_put_22 : decode cL_put 22 = .ok (.astore 6, 2) := by decide +kernel
theorem dL_put_24 : decode cL_put 24 = .ok (.iconst 3, 1) := by decide +kernel
theorem dL_put_25 : decode cL_put 25 = .ok (.ireturn, 1) := by decide +kernel
theorem dL_put_26 : decode cL_put 26 = .ok (.astore 6, 2) := by decide +kernel
theorem dL_put_28 : decode cL_put 28 = .ok (.iconst 4, 1) := by decide +kernel
theorem dL_put_29 : decode cL_put 29 = .ok (.ireturn, 1) := by decide +kernel
theorem dL_put_30 : decode cL_put 30 = .ok (.iconst 0, 1) := by decide +kernel
theorem dL_put_31 : decode cL_put 31 = .ok (.ireturn, 1) := by decide +kernel
theorem dL_cell_0 : decode cL_cell 0 = .ok (.aload 4, 2) := by decide +kernel
theorem dL_cell_2 : decode cL_cell 2 = .ok (.iconst 0, 1) := by decide +kernel
theorem dL_cell_3 : decode cL_cell 3 = .ok (.aload_n 0, 1) := by decide +kernel
theorem dL_cell_4 : decode cL_cell 4 = .ok (.iload_n 1, 1) := by decide +kernel
theorem dL_cell_5 : decode cL_cell 5 = .ok (.iload_n 2, 1) := by decide +kernel
theorem dL_cell_6 : decode cL_cell 6 = .ok (.iload_n 3, 1) := by decide +kernel
theorem dL_cell_7 : decode cL_cell 7 = .ok (.invokevirtual 57, 3) := by decide +kernel
theorem dL_cell_10 : decode cL_cell 10 = .ok (.i2l, 1) := by decide +kernel
theorem dL_cell_11 : decode cL_cell 11 = .ok (.lastore, 1) := by decide +kernel
theorem dL_cell_12 : decode cL_cell 12 = .ok (.goto 19, 3) := by decide +kernel
theorem dL_cell_15 : decode cL_cell 15 = .ok (.astore 5, 2) := by decide +kernel
theorem dL_cell_17 : decode cL_cell 17 = .ok (.iconst 1, 1) := by decide +kernel
theorem dL_cell_18 : decode cL_cell 18 = .ok (.ireturn, 1) := by decide +kernel
theorem dL_cell_19 : decode cL_cell 19 = .ok (.astore 5, 2) := by decide +kernel
theorem dL_cell_21 : decode cL_cell 21 = .ok (.iconst 2, 1) := by decide +kernel
theorem dL_cell_22 : decode cL_cell 22 = .ok (.ireturn, 1) := by decide +kernel
theorem dL_cell_23 : decode cL_cell 23 = .ok (.astore 5, 2) := by decide +kernel
theorem dL_cell_25 : decode cL_cell 25 = .ok (.iconst 3, 1) := by decide +kernel
theorem dL_cell_26 : decode cL_cell 26 = .ok (.ireturn, 1) := by decide +kernel
theorem dL_cell_27 : decode cL_cell 27 = .ok (.astore 5, 2) := by decide +kernel
theorem dL_cell_29 : decode cL_cell 29 = .ok (.iconst 4, 1) := by decide +kernel
theorem dL_cell_30 : decode cL_cell 30 = .ok (.ireturn, 1) := by decide +kernel
theorem dL_cell_31 : decode cL_cell 31 = .ok (.iconst 0, 1) := by decide +kernel
theorem dL_cell_32 : decode cL_cell 32 = .ok (.ireturn, 1) := by decide +kernel
theorem dL_setCell_0 : decode cL_setCell 0 = .ok (.aload_n 0, 1) := by decide +kernel
theorem dL_setCell_1 : decode cL_setCell 1 = .ok (.iload_n 1, 1) := by decide +kernel
theorem dL_setCell_2 : decode cL_setCell 2 = .ok (.iload_n 2, 1) := by decide +kernel
theorem dL_setCell_3 : decode cL_setCell 3 = .ok (.iload_n 3, 1) := by decide +kernel
theorem dL_setCell_4 : decode cL_setCell 4 = .ok (.iload 4, 2) := by decide +kernel
theorem dL_setCell_6 : decode cL_setCell 6 = .ok (.iload 5, 2) := by decide +kernel
theorem dL_setCell_8 : decode cL_setCell 8 = .ok (.invokevirtual 60, 3) := by decide +kernel
theorem dL_setCell_11 : decode cL_setCell 11 = .ok (.goto 23, 3) := by decide +kernel
theorem dL_setCell_14 : decode cL_setCell 14 = .ok (.astore 6, 2) := by decide +kernel
theorem dL_setCell_16 : decode cL_setCell 16 = .ok (.iconst 1, 1) := by decide +kernel
theorem dL_setCell_17 : decode cL_setCell 17 = .ok (.ireturn, 1) := by decide +kernel
theorem dL_setCell_18 : decode cL_setCell 18 = .ok (.astore 6, 2) := by decide +kernel
theorem dL_setCell_20 : decode cL_setCell 20 = .ok (.iconst 2, 1) := by decide +kernel
theorem dL_setCell_21 : decode cL_setCell 21 = .ok (.ireturn, 1) := by decide +kernel
theorem dL_setCell_22 : decode cL_setCell 22 = .ok (.astore 6, 2) := by decide +kernel
theorem dL_setCell_24 : decode cL_setCell 24 = .ok (.iconst 3, 1) := by decide +kernel
theorem dL_setCell_25 : decode cL_setCell 25 = .ok (.ireturn, 1) := by decide +kernel
theorem dL_setCell_26 : decode cL_setCell 26 = .ok (.astore 6, 2) := by decide +kernel
theorem dL_setCell_28 : decode cL_setCell 28 = .ok (.iconst 4, 1) := by decide +kernel
theorem dL_setCell_29 : decode cL_setCell 29 = .ok (.ireturn, 1) := by decide +kernel
theorem dL_setCell_30 : decode cL_setCell 30 = .ok (.astore 6, 2) := by decide +kernel
theorem dL_setCell_32 : decode cL_setCell 32 = .ok (.iconst 5, 1) := by decide +kernel
theorem dL_setCell_33 : decode cL_setCell 33 = .ok (.ireturn, 1) := by decide +kernel
theorem dL_setCell_34 : decode cL_setCell 34 = .ok (.iconst 0, 1) := by decide +kernel
theorem dL_setCell_35 : decode cL_setCell 35 = .ok (.ireturn, 1) := by decide +kernel
theorem dL_refer_0 : decode cL_refer 0 = .ok (.aload_n 0, 1) := by decide +kernel
theorem dL_refer_1 : decode cL_refer 1 = .ok (.iload_n 1, 1) := by decide +kernel
theorem dL_refer_2 : decode cL_refer 2 = .ok (.iload_n 2, 1) := by decide +kernel
theorem dL_refer_3 : decode cL_refer 3 = .ok (.iload_n 3, 1) := by decide +kernel
theorem dL_refer_4 : decode cL_refer 4 = .ok (.invokevirtual 66, 3) := by decide +kernel
theorem dL_refer_7 : decode cL_refer 7 = .ok (.goto 19, 3) := by decide +kernel
theorem dL_refer_10 : decode cL_refer 10 = .ok (.astore 4, 2) := by decide +kernel
theorem dL_refer_12 : decode cL_refer 12 = .ok (.iconst 1, 1) := by decide +kernel
theorem dL_refer_13 : decode cL_refer 13 = .ok (.ireturn, 1) := by decide +kernel
theorem dL_refer_14 : decode cL_refer 14 = .ok (.astore 4, 2) := by decide +kernel
theorem dL_refer_16 : decode cL_refer 16 = .ok (.iconst 2, 1) := by decide +kernel
theorem dL_refer_17 : decode cL_refer 17 = .ok (.ireturn, 1) := by decide +kernel
theorem dL_refer_18 : decode cL_refer 18 = .ok (.astore 4, 2) := by decide +kernel
theorem dL_refer_20 : decode cL_refer 20 = .ok (.iconst 3, 1) := by decide +kernel
theorem dL_refer_21 : decode cL_refer 21 = .ok (.ireturn, 1) := by decide +kernel
theorem dL_refer_22 : decode cL_refer 22 = .ok (.astore 4, 2) := by decide +kernel
theorem dL_refer_24 : decode cL_refer 24 = .ok (.iconst 4, 1) := by decide +kernel
theorem dL_refer_25 : decode cL_refer 25 = .ok (.ireturn, 1) := by decide +kernel
theorem dL_refer_26 : decode cL_refer 26 = .ok (.iconst 0, 1) := by decide +kernel
theorem dL_refer_27 : decode cL_refer 27 = .ok (.ireturn, 1) := by decide +kernel
theorem dL_fetch_0 : decode cL_fetch 0 = .ok (.aload 4, 2) := by decide +kernel
theorem dL_fetch_2 : decode cL_fetch 2 = .ok (.iconst 0, 1) := by decide +kernel
theorem dL_fetch_3 : decode cL_fetch 3 = .ok (.aload_n 0, 1) := by decide +kernel
theorem dL_fetch_4 : decode cL_fetch 4 = .ok (.iload_n 1, 1) := by decide +kernel
theorem dL_fetch_5 : decode cL_fetch 5 = .ok (.iload_n 2, 1) := by decide +kernel
theorem dL_fetch_6 : decode cL_fetch 6 = .ok (.iload_n 3, 1) := by decide +kernel
theorem dL_fetch_7 : decode cL_fetch 7 = .ok (.invokevirtual 70, 3) := by decide +kernel
theorem dL_fetch_10 : decode cL_fetch 10 = .ok (.i2l, 1) := by decide +kernel
theorem dL_fetch_11 : decode cL_fetch 11 = .ok (.lastore, 1) := by decide +kernel
theorem dL_fetch_12 : decode cL_fetch 12 = .ok (.goto 19, 3) := by decide +kernel
theorem dL_fetch_15 : decode cL_fetch 15 = .ok (.astore 5, 2) := by decide +kernel
theorem dL_fetch_17 : decode cL_fetch 17 = .ok (.iconst 1, 1) := by decide +kernel
theorem dL_fetch_18 : decode cL_fetch 18 = .ok (.ireturn, 1) := by decide +kernel
theorem dL_fetch_19 : decode cL_fetch 19 = .ok (.astore 5, 2) := by decide +kernel
theorem dL_fetch_21 : decode cL_fetch 21 = .ok (.iconst 2, 1) := by decide +kernel
theorem dL_fetch_22 : decode cL_fetch 22 = .ok (.ireturn, 1) := by decide +kernel
theorem dL_fetch_23 : decode cL_fetch 23 = .ok (.astore 5, 2) := by decide +kernel
theorem dL_fetch_25 : decode cL_fetch 25 = .ok (.iconst 3, 1) := by decide +kernel
theorem dL_fetch_26 : decode cL_fetch 26 = .ok (.ireturn, 1) := by decide +kernel
theorem dL_fetch_27 : decode cL_fetch 27 = .ok (.astore 5, 2) := by decide +kernel
theorem dL_fetch_29 : decode cL_fetch 29 = .ok (.iconst 4, 1) := by decide +kernel
theorem dL_fetch_30 : decode cL_fetch 30 = .ok (.ireturn, 1) := by decide +kernel
theorem dL_fetch_31 : decode cL_fetch 31 = .ok (.iconst 0, 1) := by decide +kernel
theorem dL_fetch_32 : decode cL_fetch 32 = .ok (.ireturn, 1) := by decide +kernel
theorem dL_link_0 : decode cL_link 0 = .ok (.aload_n 0, 1) := by decide +kernel
theorem dL_link_1 : decode cL_link 1 = .ok (.iload_n 1, 1) := by decide +kernel
theorem dL_link_2 : decode cL_link 2 = .ok (.iload_n 2, 1) := by decide +kernel
theorem dL_link_3 : decode cL_link 3 = .ok (.invokevirtual 73, 3) := by decide +kernel
theorem dL_link_6 : decode cL_link 6 = .ok (.goto 12, 3) := by decide +kernel
theorem dL_link_9 : decode cL_link 9 = .ok (.astore_n 3, 1) := by decide +kernel
theorem dL_link_10 : decode cL_link 10 = .ok (.iconst 1, 1) := by decide +kernel
theorem dL_link_11 : decode cL_link 11 = .ok (.ireturn, 1) := by decide +kernel
theorem dL_link_12 : decode cL_link 12 = .ok (.astore_n 3, 1) := by decide +kernel
theorem dL_link_13 : decode cL_link 13 = .ok (.iconst 2, 1) := by decide +kernel
theorem dL_link_14 : decode cL_link 14 = .ok (.ireturn, 1) := by decide +kernel
theorem dL_link_15 : decode cL_link 15 = .ok (.astore_n 3, 1) := by decide +kernel
theorem dL_link_16 : decode cL_link 16 = .ok (.iconst 3, 1) := by decide +kernel
theorem dL_link_17 : decode cL_link 17 = .ok (.ireturn, 1) := by decide +kernel
theorem dL_link_18 : decode cL_link 18 = .ok (.iconst 0, 1) := by decide +kernel
theorem dL_link_19 : decode cL_link 19 = .ok (.ireturn, 1) := by decide +kernel
theorem dL_follow_0 : decode cL_follow 0 = .ok (.aload_n 3, 1) := by decide +kernel
theorem dL_follow_1 : decode cL_follow 1 = .ok (.iconst 0, 1) := by decide +kernel
theorem dL_follow_2 : decode cL_follow 2 = .ok (.aload_n 0, 1) := by decide +kernel
theorem dL_follow_3 : decode cL_follow 3 = .ok (.iload_n 1, 1) := by decide +kernel
theorem dL_follow_4 : decode cL_follow 4 = .ok (.iload_n 2, 1) := by decide +kernel
theorem dL_follow_5 : decode cL_follow 5 = .ok (.invokevirtual 77, 3) := by decide +kernel
theorem dL_follow_8 : decode cL_follow 8 = .ok (.ifCond .eq 7, 3) := by decide +kernel
theorem dL_follow_11 : decode cL_follow 11 = .ok (.lconst 1, 1) := by decide +kernel
theorem dL_follow_12 : decode cL_follow 12 = .ok (.goto 4, 3) := by decide +kernel
theorem dL_follow_15 : decode cL_follow 15 = .ok (.lconst 0, 1) := by decide +kernel
theorem dL_follow_16 : decode cL_follow 16 = .ok (.lastore, 1) := by decide +kernel
theorem dL_follow_17 : decode cL_follow 17 = .ok (.goto 15, 3) := by decide +kernel
theorem dL_follow_20 : decode cL_follow 20 = .ok (.astore 4, 2) := by decide +kernel
theorem dL_follow_22 : decode cL_follow 22 = .ok (.iconst 1, 1) := by decide +kernel
theorem dL_follow_23 : decode cL_follow 23 = .ok (.ireturn, 1) := by decide +kernel
theorem dL_follow_24 : decode cL_follow 24 = .ok (.astore 4, 2) := by decide +kernel
theorem dL_follow_26 : decode cL_follow 26 = .ok (.iconst 2, 1) := by decide +kernel
theorem dL_follow_27 : decode cL_follow 27 = .ok (.ireturn, 1) := by decide +kernel
theorem dL_follow_28 : decode cL_follow 28 = .ok (.astore 4, 2) := by decide +kernel
theorem dL_follow_30 : decode cL_follow 30 = .ok (.iconst 3, 1) := by decide +kernel
theorem dL_follow_31 : decode cL_follow 31 = .ok (.ireturn, 1) := by decide +kernel
theorem dL_follow_32 : decode cL_follow 32 = .ok (.iconst 0, 1) := by decide +kernel
theorem dL_follow_33 : decode cL_follow 33 = .ok (.ireturn, 1) := by decide +kernel
theorem dL_exchange_0 : decode cL_exchange 0 = .ok (.aload 4, 2) := by decide +kernel
theorem dL_exchange_2 : decode cL_exchange 2 = .ok (.iconst 0, 1) := by decide +kernel
theorem dL_exchange_3 : decode cL_exchange 3 = .ok (.aload_n 0, 1) := by decide +kernel
theorem dL_exchange_4 : decode cL_exchange 4 = .ok (.iload_n 1, 1) := by decide +kernel
theorem dL_exchange_5 : decode cL_exchange 5 = .ok (.lload_n 2, 1) := by decide +kernel
theorem dL_exchange_6 : decode cL_exchange 6 = .ok (.invokevirtual 80, 3) := by decide +kernel
theorem dL_exchange_9 : decode cL_exchange 9 = .ok (.lastore, 1) := by decide +kernel
theorem dL_exchange_10 : decode cL_exchange 10 = .ok (.goto 15, 3) := by decide +kernel
theorem dL_exchange_13 : decode cL_exchange 13 = .ok (.astore 5, 2) := by decide +kernel
theorem dL_exchange_15 : decode cL_exchange 15 = .ok (.iconst 1, 1) := by decide +kernel
theorem dL_exchange_16 : decode cL_exchange 16 = .ok (.ireturn, 1) := by decide +kernel
theorem dL_exchange_17 : decode cL_exchange 17 = .ok (.astore 5, 2) := by decide +kernel
theorem dL_exchange_19 : decode cL_exchange 19 = .ok (.iconst 2, 1) := by decide +kernel
theorem dL_exchange_20 : decode cL_exchange 20 = .ok (.ireturn, 1) := by decide +kernel
theorem dL_exchange_21 : decode cL_exchange 21 = .ok (.astore 5, 2) := by decide +kernel
theorem dL_exchange_23 : decode cL_exchange 23 = .ok (.iconst 3, 1) := by decide +kernel
theorem dL_exchange_24 : decode cL_exchange 24 = .ok (.ireturn, 1) := by decide +kernel
theorem dL_exchange_25 : decode cL_exchange 25 = .ok (.iconst 0, 1) := by decide +kernel
theorem dL_exchange_26 : decode cL_exchange 26 = .ok (.ireturn, 1) := by decide +kernel
theorem dL_total_0 : decode cL_total 0 = .ok (.aload_n 2, 1) := by decide +kernel
theorem dL_total_1 : decode cL_total 1 = .ok (.iconst 0, 1) := by decide +kernel
theorem dL_total_2 : decode cL_total 2 = .ok (.aload_n 0, 1) := by decide +kernel
theorem dL_total_3 : decode cL_total 3 = .ok (.iload_n 1, 1) := by decide +kernel
theorem dL_total_4 : decode cL_total 4 = .ok (.invokevirtual 84, 3) := by decide +kernel
theorem dL_total_7 : decode cL_total 7 = .ok (.lastore, 1) := by decide +kernel
theorem dL_total_8 : decode cL_total 8 = .ok (.goto 12, 3) := by decide +kernel
theorem dL_total_11 : decode cL_total 11 = .ok (.astore_n 3, 1) := by decide +kernel
theorem dL_total_12 : decode cL_total 12 = .ok (.iconst 1, 1) := by decide +kernel
theorem dL_total_13 : decode cL_total 13 = .ok (.ireturn, 1) := by decide +kernel
theorem dL_total_14 : decode cL_total 14 = .ok (.astore_n 3, 1) := by decide +kernel
theorem dL_total_15 : decode cL_total 15 = .ok (.iconst 2, 1) := by decide +kernel
theorem dL_total_16 : decode cL_total 16 = .ok (.ireturn, 1) := by decide +kernel
theorem dL_total_17 : decode cL_total 17 = .ok (.astore_n 3, 1) := by decide +kernel
theorem dL_total_18 : decode cL_total 18 = .ok (.iconst 3, 1) := by decide +kernel
theorem dL_total_19 : decode cL_total 19 = .ok (.ireturn, 1) := by decide +kernel
theorem dL_total_20 : decode cL_total 20 = .ok (.iconst 0, 1) := by decide +kernel
theorem dL_total_21 : decode cL_total 21 = .ok (.ireturn, 1) := by decide +kernel
theorem dL_combine_0 : decode cL_combine 0 = .ok (.aload 6, 2) := by decide +kernel
theorem dL_combine_2 : decode cL_combine 2 = .ok (.iconst 0, 1) := by decide +kernel
theorem dL_combine_3 : decode cL_combine 3 = .ok (.aload_n 0, 1) := by decide +kernel
theorem dL_combine_4 : decode cL_combine 4 = .ok (.iload_n 1, 1) := by decide +kernel
theorem dL_combine_5 : decode cL_combine 5 = .ok (.iload_n 2, 1) := by decide +kernel
theorem dL_combine_6 : decode cL_combine 6 = .ok (.iload_n 3, 1) := by decide +kernel
theorem dL_combine_7 : decode cL_combine 7 = .ok (.iload 4, 2) := by decide +kernel
theorem dL_combine_9 : decode cL_combine 9 = .ok (.iload 5, 2) := by decide +kernel
theorem dL_combine_11 : decode cL_combine 11 = .ok (.invokevirtual 88, 3) := by decide +kernel
theorem dL_combine_14 : decode cL_combine 14 = .ok (.lastore, 1) := by decide +kernel
theorem dL_combine_15 : decode cL_combine 15 = .ok (.goto 23, 3) := by decide +kernel
theorem dL_combine_18 : decode cL_combine 18 = .ok (.astore 7, 2) := by decide +kernel
theorem dL_combine_20 : decode cL_combine 20 = .ok (.iconst 1, 1) := by decide +kernel
theorem dL_combine_21 : decode cL_combine 21 = .ok (.ireturn, 1) := by decide +kernel
theorem dL_combine_22 : decode cL_combine 22 = .ok (.astore 7, 2) := by decide +kernel
theorem dL_combine_24 : decode cL_combine 24 = .ok (.iconst 2, 1) := by decide +kernel
theorem dL_combine_25 : decode cL_combine 25 = .ok (.ireturn, 1) := by decide +kernel
theorem dL_combine_26 : decode cL_combine 26 = .ok (.astore 7, 2) := by decide +kernel
theorem dL_combine_28 : decode cL_combine 28 = .ok (.iconst 3, 1) := by decide +kernel
theorem dL_combine_29 : decode cL_combine 29 = .ok (.ireturn, 1) := by decide +kernel
theorem dL_combine_30 : decode cL_combine 30 = .ok (.astore 7, 2) := by decide +kernel
theorem dL_combine_32 : decode cL_combine 32 = .ok (.iconst 4, 1) := by decide +kernel
theorem dL_combine_33 : decode cL_combine 33 = .ok (.ireturn, 1) := by decide +kernel
theorem dL_combine_34 : decode cL_combine 34 = .ok (.astore 7, 2) := by decide +kernel
theorem dL_combine_36 : decode cL_combine 36 = .ok (.iconst 5, 1) := by decide +kernel
theorem dL_combine_37 : decode cL_combine 37 = .ok (.ireturn, 1) := by decide +kernel
theorem dL_combine_38 : decode cL_combine 38 = .ok (.iconst 0, 1) := by decide +kernel
theorem dL_combine_39 : decode cL_combine 39 = .ok (.ireturn, 1) := by decide +kernel
theorem dL_move_0 : decode cL_move 0 = .ok (.aload 6, 2) := by decide +kernel
theorem dL_move_2 : decode cL_move 2 = .ok (.iconst 0, 1) := by decide +kernel
theorem dL_move_3 : decode cL_move 3 = .ok (.aload_n 0, 1) := by decide +kernel
theorem dL_move_4 : decode cL_move 4 = .ok (.iload_n 1, 1) := by decide +kernel
theorem dL_move_5 : decode cL_move 5 = .ok (.iload_n 2, 1) := by decide +kernel
theorem dL_move_6 : decode cL_move 6 = .ok (.iload_n 3, 1) := by decide +kernel
theorem dL_move_7 : decode cL_move 7 = .ok (.iload 4, 2) := by decide +kernel
theorem dL_move_9 : decode cL_move 9 = .ok (.iload 5, 2) := by decide +kernel
theorem dL_move_11 : decode cL_move 11 = .ok (.invokevirtual 92, 3) := by decide +kernel
theorem dL_move_14 : decode cL_move 14 = .ok (.i2l, 1) := by decide +kernel
theorem dL_move_15 : decode cL_move 15 = .ok (.lastore, 1) := by decide +kernel
theorem dL_move_16 : decode cL_move 16 = .ok (.goto 19, 3) := by decide +kernel
theorem dL_move_19 : decode cL_move 19 = .ok (.astore 7, 2) := by decide +kernel
theorem dL_move_21 : decode cL_move 21 = .ok (.iconst 1, 1) := by decide +kernel
theorem dL_move_22 : decode cL_move 22 = .ok (.ireturn, 1) := by decide +kernel
theorem dL_move_23 : decode cL_move 23 = .ok (.astore 7, 2) := by decide +kernel
theorem dL_move_25 : decode cL_move 25 = .ok (.iconst 2, 1) := by decide +kernel
theorem dL_move_26 : decode cL_move 26 = .ok (.ireturn, 1) := by decide +kernel
theorem dL_move_27 : decode cL_move 27 = .ok (.astore 7, 2) := by decide +kernel
theorem dL_move_29 : decode cL_move 29 = .ok (.iconst 3, 1) := by decide +kernel
theorem dL_move_30 : decode cL_move 30 = .ok (.ireturn, 1) := by decide +kernel
theorem dL_move_31 : decode cL_move 31 = .ok (.astore 7, 2) := by decide +kernel
theorem dL_move_33 : decode cL_move 33 = .ok (.iconst 4, 1) := by decide +kernel
theorem dL_move_34 : decode cL_move 34 = .ok (.ireturn, 1) := by decide +kernel
theorem dL_move_35 : decode cL_move 35 = .ok (.iconst 0, 1) := by decide +kernel
theorem dL_move_36 : decode cL_move 36 = .ok (.ireturn, 1) := by decide +kernel
theorem dL_law_0 : decode cL_law 0 = .ok (.new 8, 3) := by decide +kernel
theorem dL_law_3 : decode cL_law 3 = .ok (.dup, 1) := by decide +kernel
theorem dL_law_4 : decode cL_law 4 = .ok (.invokespecial 96, 3) := by decide +kernel
theorem dL_law_7 : decode cL_law 7 = .ok (.astore_n 1, 1) := by decide +kernel
theorem dL_law_8 : decode cL_law 8 = .ok (.new 97, 3) := by decide +kernel
theorem dL_law_11 : decode cL_law 11 = .ok (.dup, 1) := by decide +kernel
theorem dL_law_12 : decode cL_law 12 = .ok (.invokespecial 99, 3) := by decide +kernel
theorem dL_law_15 : decode cL_law 15 = .ok (.astore_n 2, 1) := by decide +kernel
theorem dL_law_16 : decode cL_law 16 = .ok (.iconst 1, 1) := by decide +kernel
theorem dL_law_17 : decode cL_law 17 = .ok (.newarray .long, 2) := by decide +kernel
theorem dL_law_19 : decode cL_law 19 = .ok (.astore_n 3, 1) := by decide +kernel
theorem dL_law_20 : decode cL_law 20 = .ok (.iconst 0, 1) := by decide +kernel
theorem dL_law_21 : decode cL_law 21 = .ok (.istore 4, 2) := by decide +kernel
theorem dL_law_23 : decode cL_law 23 = .ok (.iload 4, 2) := by decide +kernel
theorem dL_law_25 : decode cL_law 25 = .ok (.aload_n 0, 1) := by decide +kernel
theorem dL_law_26 : decode cL_law 26 = .ok (.arraylength, 1) := by decide +kernel
theorem dL_law_27 : decode cL_law 27 = .ok (.bipush 6, 2) := by decide +kernel
theorem dL_law_29 : decode cL_law 29 = .ok (.isub, 1) := by decide +kernel
theorem dL_law_30 : decode cL_law 30 = .ok (.if_icmp .gt 1641, 3) := by decide +kernel
theorem dL_law_33 : decode cL_law 33 = .ok (.aload_n 0, 1) := by decide +kernel
theorem dL_law_34 : decode cL_law 34 = .ok (.iload 4, 2) := by decide +kernel
theorem dL_law_36 : decode cL_law 36 = .ok (.iaload, 1) := by decide +kernel
theorem dL_law_37 : decode cL_law 37 = .ok (.bipush 31, 2) := by decide +kernel
theorem dL_law_39 : decode cL_law 39 = .ok (.iand, 1) := by decide +kernel
theorem dL_law_40 : decode cL_law 40 = .ok (.tableswitch 1625 0 19 #[96, 176, 256, 312, 392, 467, 535, 603, 659, 726, 837, 917, 1001, 1061, 1141, 1189, 1264, 1363, 1418, 1521], 96) := by decide +kernel
theorem dL_law_136 : decode cL_law 136 = .ok (.aload_n 1, 1) := by decide +kernel
theorem dL_law_137 : decode cL_law 137 = .ok (.aload_n 0, 1) := by decide +kernel
theorem dL_law_138 : decode cL_law 138 = .ok (.iload 4, 2) := by decide +kernel
theorem dL_law_140 : decode cL_law 140 = .ok (.iconst 1, 1) := by decide +kernel
theorem dL_law_141 : decode cL_law 141 = .ok (.iadd, 1) := by decide +kernel
theorem dL_law_142 : decode cL_law 142 = .ok (.iaload, 1) := by decide +kernel
theorem dL_law_143 : decode cL_law 143 = .ok (.aload_n 0, 1) := by decide +kernel
theorem dL_law_144 : decode cL_law 144 = .ok (.iload 4, 2) := by decide +kernel
theorem dL_law_146 : decode cL_law 146 = .ok (.iconst 2, 1) := by decide +kernel
theorem dL_law_147 : decode cL_law 147 = .ok (.iadd, 1) := by decide +kernel
theorem dL_law_148 : decode cL_law 148 = .ok (.iaload, 1) := by decide +kernel
theorem dL_law_149 : decode cL_law 149 = .ok (.aload_n 0, 1) := by decide +kernel
theorem dL_law_150 : decode cL_law 150 = .ok (.iload 4, 2) := by decide +kernel
theorem dL_law_152 : decode cL_law 152 = .ok (.iconst 3, 1) := by decide +kernel
theorem dL_law_153 : decode cL_law 153 = .ok (.iadd, 1) := by decide +kernel
theorem dL_law_154 : decode cL_law 154 = .ok (.iaload, 1) := by decide +kernel
theorem dL_law_155 : decode cL_law 155 = .ok (.aload_n 3, 1) := by decide +kernel
theorem dL_law_156 : decode cL_law 156 = .ok (.invokestatic 100, 3) := by decide +kernel
theorem dL_law_159 : decode cL_law 159 = .ok (.istore 5, 2) := by decide +kernel
theorem dL_law_161 : decode cL_law 161 = .ok (.aload_n 2, 1) := by decide +kernel
theorem dL_law_162 : decode cL_law 162 = .ok (.aload_n 0, 1) := by decide +kernel
theorem dL_law_163 : decode cL_law 163 = .ok (.iload 4, 2) := by decide +kernel
theorem dL_law_165 : decode cL_law 165 = .ok (.iconst 1, 1) := by decide +kernel
theorem dL_law_166 : decode cL_law 166 = .ok (.iadd, 1) := by decide +kernel
theorem dL_law_167 : decode cL_law 167 = .ok (.iaload, 1) := by decide +kernel
theorem dL_law_168 : decode cL_law 168 = .ok (.aload_n 0, 1) := by decide +kernel
theorem dL_law_169 : decode cL_law 169 = .ok (.iload 4, 2) := by decide +kernel
theorem dL_law_171 : decode cL_law 171 = .ok (.iconst 2, 1) := by decide +kernel
theorem dL_law_172 : decode cL_law 172 = .ok (.iadd, 1) := by decide +kernel
theorem dL_law_173 : decode cL_law 173 = .ok (.iaload, 1) := by decide +kernel
theorem dL_law_174 : decode cL_law 174 = .ok (.aload_n 0, 1) := by decide +kernel
theorem dL_law_175 : decode cL_law 175 = .ok (.iload 4, 2) := by decide +kernel
theorem dL_law_177 : decode cL_law 177 = .ok (.iconst 3, 1) := by decide +kernel
theorem dL_law_178 : decode cL_law 178 = .ok (.iadd, 1) := by decide +kernel
theorem dL_law_179 : decode cL_law 179 = .ok (.iaload, 1) := by decide +kernel
theorem dL_law_180 : decode cL_law 180 = .ok (.invokevirtual 105, 3) := by decide +kernel
theorem dL_law_183 : decode cL_law 183 = .ok (.istore 6, 2) := by decide +kernel
theorem dL_law_185 : decode cL_law 185 = .ok (.aload_n 2, 1) := by decide +kernel
theorem dL_law_186 : decode cL_law 186 = .ok (.invokevirtual 106, 3) := by decide +kernel
theorem dL_law_189 : decode cL_law 189 = .ok (.iload 5, 2) := by decide +kernel
theorem dL_law_191 : decode cL_law 191 = .ok (.if_icmp .eq 5, 3) := by decide +kernel
theorem dL_law_194 : decode cL_law 194 = .ok (.iconst 0, 1) := by decide +kernel
theorem dL_law_195 : decode cL_law 195 = .ok (.ireturn, 1) := by decide +kernel
theorem dL_law_196 : decode cL_law 196 = .ok (.iload 5, 2) := by decide +kernel
theorem dL_law_198 : decode cL_law 198 = .ok (.ifCond .ne 15, 3) := by decide +kernel
theorem dL_law_201 : decode cL_law 201 = .ok (.aload_n 3, 1) := by decide +kernel
theorem dL_law_202 : decode cL_law 202 = .ok (.iconst 0, 1) := by decide +kernel
theorem dL_law_203 : decode cL_law 203 = .ok (.laload, 1) := by decide +kernel
theorem dL_law_204 : decode cL_law 204 = .ok (.iload 6, 2) := by decide +kernel
theorem dL_law_206 : decode cL_law 206 = .ok (.i2l, 1) := by decide +kernel
theorem dL_law_207 : decode cL_law 207 = .ok (.lcmp, 1) := by decide +kernel
theorem dL_law_208 : decode cL_law 208 = .ok (.ifCond .eq 5, 3) := by decide +kernel
theorem dL_law_211 : decode cL_law 211 = .ok (.iconst 0, 1) := by decide +kernel
theorem dL_law_212 : decode cL_law 212 = .ok (.ireturn, 1) := by decide +kernel
theorem dL_law_213 : decode cL_law 213 = .ok (.goto 1452, 3) := by decide +kernel
theorem dL_law_216 : decode cL_law 216 = .ok (.aload_n 1, 1) := by decide +kernel
theorem dL_law_217 : decode cL_law 217 = .ok (.aload_n 0, 1) := by decide +kernel
theorem dL_law_218 : decode cL_law 218 = .ok (.iload 4, 2) := by decide +kernel
theorem dL_law_220 : decode cL_law 220 = .ok (.iconst 1, 1) := by decide +kernel
theorem dL_law_221 : decode cL_law 221 = .ok (.iadd, 1) := by decide +kernel
theorem dL_law_222 : decode cL_law 222 = .ok (.iaload, 1) := by decide +kernel
theorem dL_law_223 : decode cL_law 223 = .ok (.aload_n 0, 1) := by decide +kernel
theorem dL_law_224 : decode cL_law 224 = .ok (.iload 4, 2) := by decide +kernel
theorem dL_law_226 : decode cL_law 226 = .ok (.iconst 2, 1) := by decide +kernel
theorem dL_law_227 : decode cL_law 227 = .ok (.iadd, 1) := by decide +kernel
theorem dL_law_228 : decode cL_law 228 = .ok (.iaload, 1) := by decide +kernel
theorem dL_law_229 : decode cL_law 229 = .ok (.aload_n 0, 1) := by decide +kernel
theorem dL_law_230 : decode cL_law 230 = .ok (.iload 4, 2) := by decide +kernel
theorem dL_law_232 : decode cL_law 232 = .ok (.iconst 3, 1) := by decide +kernel
theorem dL_law_233 : decode cL_law 233 = .ok (.iadd, 1) := by decide +kernel
theorem dL_law_234 : decode cL_law 234 = .ok (.iaload, 1) := by decide +kernel
theorem dL_law_235 : decode cL_law 235 = .ok (.aload_n 3, 1) := by decide +kernel
theorem dL_law_236 : decode cL_law 236 = .ok (.invokestatic 110, 3) := by decide +kernel
theorem dL_law_239 : decode cL_law 239 = .ok (.istore 5, 2) := by decide +kernel
theorem dL_law_241 : decode cL_law 241 = .ok (.aload_n 2, 1) := by decide +kernel
theorem dL_law_242 : decode cL_law 242 = .ok (.aload_n 0, 1) := by decide +kernel
theorem dL_law_243 : decode cL_law 243 = .ok (.iload 4, 2) := by decide +kernel
theorem dL_law_245 : decode cL_law 245 = .ok (.iconst 1, 1) := by decide +kernel
theorem dL_law_246 : decode cL_law 246 = .ok (.iadd, 1) := by decide +kernel
theorem dL_law_247 : decode cL_law 247 = .ok (.iaload, 1) := by decide +kernel
theorem dL_law_248 : decode cL_law 248 = .ok (.aload_n 0, 1) := by decide +kernel
theorem dL_law_249 : decode cL_law 249 = .ok (.iload 4, 2) := by decide +kernel
theorem dL_law_251 : decode cL_law 251 = .ok (.iconst 2, 1) := by decide +kernel
theorem dL_law_252 : decode cL_law 252 = .ok (.iadd, 1) := by decide +kernel
theorem dL_law_253 : decode cL_law 253 = .ok (.iaload, 1) := by decide +kernel
theorem dL_law_254 : decode cL_law 254 = .ok (.aload_n 0, 1) := by decide +kernel
theorem dL_law_255 : decode cL_law 255 = .ok (.iload 4, 2) := by decide +kernel
theorem dL_law_257 : decode cL_law 257 = .ok (.iconst 3, 1) := by decide +kernel
theorem dL_law_258 : decode cL_law 258 = .ok (.iadd, 1) := by decide +kernel
theorem dL_law_259 : decode cL_law 259 = .ok (.iaload, 1) := by decide +kernel
theorem dL_law_260 : decode cL_law 260 = .ok (.invokevirtual 112, 3) := by decide +kernel
theorem dL_law_263 : decode cL_law 263 = .ok (.istore 6, 2) := by decide +kernel
theorem dL_law_265 : decode cL_law 265 = .ok (.aload_n 2, 1) := by decide +kernel
theorem dL_law_266 : decode cL_law 266 = .ok (.invokevirtual 106, 3) := by decide +kernel
theorem dL_law_269 : decode cL_law 269 = .ok (.iload 5, 2) := by decide +kernel
theorem dL_law_271 : decode cL_law 271 = .ok (.if_icmp .eq 5, 3) := by decide +kernel
theorem dL_law_274 : decode cL_law 274 = .ok (.iconst 0, 1) := by decide +kernel
theorem dL_law_275 : decode cL_law 275 = .ok (.ireturn, 1) := by decide +kernel
theorem dL_law_276 : decode cL_law 276 = .ok (.iload 5, 2) := by decide +kernel
theorem dL_law_278 : decode cL_law 278 = .ok (.ifCond .ne 15, 3) := by decide +kernel
theorem dL_law_281 : decode cL_law 281 = .ok (.aload_n 3, 1) := by decide +kernel
theorem dL_law_282 : decode cL_law 282 = .ok (.iconst 0, 1) := by decide +kernel
theorem dL_law_283 : decode cL_law 283 = .ok (.laload, 1) := by decide +kernel
theorem dL_law_284 : decode cL_law 284 = .ok (.iload 6, 2) := by decide +kernel
theorem dL_law_286 : decode cL_law 286 = .ok (.i2l, 1) := by decide +kernel
theorem dL_law_287 : decode cL_law 287 = .ok (.lcmp, 1) := by decide +kernel
theorem dL_law_288 : decode cL_law 288 = .ok (.ifCond .eq 5, 3) := by decide +kernel
theorem dL_law_291 : decode cL_law 291 = .ok (.iconst 0, 1) := by decide +kernel
theorem dL_law_292 : decode cL_law 292 = .ok (.ireturn, 1) := by decide +kernel
theorem dL_law_293 : decode cL_law 293 = .ok (.goto 1372, 3) := by decide +kernel
theorem dL_law_296 : decode cL_law 296 = .ok (.aload_n 1, 1) := by decide +kernel
theorem dL_law_297 : decode cL_law 297 = .ok (.aload_n 0, 1) := by decide +kernel
theorem dL_law_298 : decode cL_law 298 = .ok (.iload 4, 2) := by decide +kernel
theorem dL_law_300 : decode cL_law 300 = .ok (.iconst 1, 1) := by decide +kernel
theorem dL_law_301 : decode cL_law 301 = .ok (.iadd, 1) := by decide +kernel
theorem dL_law_302 : decode cL_law 302 = .ok (.iaload, 1) := by decide +kernel
theorem dL_law_303 : decode cL_law 303 = .ok (.aload_n 3, 1) := by decide +kernel
theorem dL_law_304 : decode cL_law 304 = .ok (.invokestatic 113, 3) := by decide +kernel
theorem dL_law_307 : decode cL_law 307 = .ok (.istore 5, 2) := by decide +kernel
theorem dL_law_309 : decode cL_law 309 = .ok (.aload_n 2, 1) := by decide +kernel
theorem dL_law_310 : decode cL_law 310 = .ok (.aload_n 0, 1) := by decide +kernel
theorem dL_law_311 : decode cL_law 311 = .ok (.iload 4, 2) := by decide +kernel
theorem dL_law_313 : decode cL_law 313 = .ok (.iconst 1, 1) := by decide +kernel
theorem dL_law_314 : decode cL_law 314 = .ok (.iadd, 1) := by decide +kernel
theorem dL_law_315 : decode cL_law 315 = .ok (.iaload, 1) := by decide +kernel
theorem dL_law_316 : decode cL_law 316 = .ok (.invokevirtual 116, 3) := by decide +kernel
theorem dL_law_319 : decode cL_law 319 = .ok (.istore 6, 2) := by decide +kernel
theorem dL_law_321 : decode cL_law 321 = .ok (.aload_n 2, 1) := by decide +kernel
theorem dL_law_322 : decode cL_law 322 = .ok (.invokevirtual 106, 3) := by decide +kernel
theorem dL_law_325 : decode cL_law 325 = .ok (.iload 5, 2) := by decide +kernel
theorem dL_law_327 : decode cL_law 327 = .ok (.if_icmp .eq 5, 3) := by decide +kernel
theorem dL_law_330 : decode cL_law 330 = .ok (.iconst 0, 1) := by decide +kernel
theorem dL_law_331 : decode cL_law 331 = .ok (.ireturn, 1) := by decide +kernel
theorem dL_law_332 : decode cL_law 332 = .ok (.iload 5, 2) := by decide +kernel
theorem dL_law_334 : decode cL_law 334 = .ok (.ifCond .ne 15, 3) := by decide +kernel
theorem dL_law_337 : decode cL_law 337 = .ok (.aload_n 3, 1) := by decide +kernel
theorem dL_law_338 : decode cL_law 338 = .ok (.iconst 0, 1) := by decide +kernel
theorem dL_law_339 : decode cL_law 339 = .ok (.laload, 1) := by decide +kernel
theorem dL_law_340 : decode cL_law 340 = .ok (.iload 6, 2) := by decide +kernel
theorem dL_law_342 : decode cL_law 342 = .ok (.i2l, 1) := by decide +kernel
theorem dL_law_343 : decode cL_law 343 = .ok (.lcmp, 1) := by decide +kernel
theorem dL_law_344 : decode cL_law 344 = .ok (.ifCond .eq 5, 3) := by decide +kernel
theorem dL_law_347 : decode cL_law 347 = .ok (.iconst 0, 1) := by decide +kernel
theorem dL_law_348 : decode cL_law 348 = .ok (.ireturn, 1) := by decide +kernel
theorem dL_law_349 : decode cL_law 349 = .ok (.goto 1316, 3) := by decide +kernel
theorem dL_law_352 : decode cL_law 352 = .ok (.aload_n 1, 1) := by decide +kernel
theorem dL_law_353 : decode cL_law 353 = .ok (.aload_n 0, 1) := by decide +kernel
theorem dL_law_354 : decode cL_law 354 = .ok (.iload 4, 2) := by decide +kernel
theorem dL_law_356 : decode cL_law 356 = .ok (.iconst 1, 1) := by decide +kernel
theorem dL_law_357 : decode cL_law 357 = .ok (.iadd, 1) := by decide +kernel
theorem dL_law_358 : decode cL_law 358 = .ok (.iaload, 1) := by decide +kernel
theorem dL_law_359 : decode cL_law 359 = .ok (.aload_n 0, 1) := by decide +kernel
theorem dL_law_360 : decode cL_law 360 = .ok (.iload 4, 2) := by decide +kernel
theorem dL_law_362 : decode cL_law 362 = .ok (.iconst 2, 1) := by decide +kernel
theorem dL_law_363 : decode cL_law 363 = .ok (.iadd, 1) := by decide +kernel
theorem dL_law_364 : decode cL_law 364 = .ok (.iaload, 1) := by decide +kernel
theorem dL_law_365 : decode cL_law 365 = .ok (.aload_n 0, 1) := by decide +kernel
theorem dL_law_366 : decode cL_law 366 = .ok (.iload 4, 2) := by decide +kernel
theorem dL_law_368 : decode cL_law 368 = .ok (.iconst 3, 1) := by decide +kernel
theorem dL_law_369 : decode cL_law 369 = .ok (.iadd, 1) := by decide +kernel
theorem dL_law_370 : decode cL_law 370 = .ok (.iaload, 1) := by decide +kernel
theorem dL_law_371 : decode cL_law 371 = .ok (.aload_n 3, 1) := by decide +kernel
theorem dL_law_372 : decode cL_law 372 = .ok (.invokestatic 117, 3) := by decide +kernel
theorem dL_law_375 : decode cL_law 375 = .ok (.istore 5, 2) := by decide +kernel
theorem dL_law_377 : decode cL_law 377 = .ok (.aload_n 2, 1) := by decide +kernel
theorem dL_law_378 : decode cL_law 378 = .ok (.aload_n 0, 1) := by decide +kernel
theorem dL_law_379 : decode cL_law 379 = .ok (.iload 4, 2) := by decide +kernel
theorem dL_law_381 : decode cL_law 381 = .ok (.iconst 1, 1) := by decide +kernel
theorem dL_law_382 : decode cL_law 382 = .ok (.iadd, 1) := by decide +kernel
theorem dL_law_383 : decode cL_law 383 = .ok (.iaload, 1) := by decide +kernel
theorem dL_law_384 : decode cL_law 384 = .ok (.aload_n 0, 1) := by decide +kernel
theorem dL_law_385 : decode cL_law 385 = .ok (.iload 4, 2) := by decide +kernel
theorem dL_law_387 : decode cL_law 387 = .ok (.iconst 2, 1) := by decide +kernel
theorem dL_law_388 : decode cL_law 388 = .ok (.iadd, 1) := by decide +kernel
theorem dL_law_389 : decode cL_law 389 = .ok (.iaload, 1) := by decide +kernel
theorem dL_law_390 : decode cL_law 390 = .ok (.aload_n 0, 1) := by decide +kernel
theorem dL_law_391 : decode cL_law 391 = .ok (.iload 4, 2) := by decide +kernel
theorem dL_law_393 : decode cL_law 393 = .ok (.iconst 3, 1) := by decide +kernel
theorem dL_law_394 : decode cL_law 394 = .ok (.iadd, 1) := by decide +kernel
theorem dL_law_395 : decode cL_law 395 = .ok (.iaload, 1) := by decide +kernel
theorem dL_law_396 : decode cL_law 396 = .ok (.invokevirtual 119, 3) := by decide +kernel
theorem dL_law_399 : decode cL_law 399 = .ok (.istore 6, 2) := by decide +kernel
theorem dL_law_401 : decode cL_law 401 = .ok (.aload_n 2, 1) := by decide +kernel
theorem dL_law_402 : decode cL_law 402 = .ok (.invokevirtual 106, 3) := by decide +kernel
theorem dL_law_405 : decode cL_law 405 = .ok (.iload 5, 2) := by decide +kernel
theorem dL_law_407 : decode cL_law 407 = .ok (.if_icmp .eq 5, 3) := by decide +kernel
theorem dL_law_410 : decode cL_law 410 = .ok (.iconst 0, 1) := by decide +kernel
theorem dL_law_411 : decode cL_law 411 = .ok (.ireturn, 1) := by decide +kernel
theorem dL_law_412 : decode cL_law 412 = .ok (.iload 5, 2) := by decide +kernel
theorem dL_law_414 : decode cL_law 414 = .ok (.ifCond .ne 15, 3) := by decide +kernel
theorem dL_law_417 : decode cL_law 417 = .ok (.aload_n 3, 1) := by decide +kernel
theorem dL_law_418 : decode cL_law 418 = .ok (.iconst 0, 1) := by decide +kernel
theorem dL_law_419 : decode cL_law 419 = .ok (.laload, 1) := by decide +kernel
theorem dL_law_420 : decode cL_law 420 = .ok (.iload 6, 2) := by decide +kernel
theorem dL_law_422 : decode cL_law 422 = .ok (.i2l, 1) := by decide +kernel
theorem dL_law_423 : decode cL_law 423 = .ok (.lcmp, 1) := by decide +kernel
theorem dL_law_424 : decode cL_law 424 = .ok (.ifCond .eq 5, 3) := by decide +kernel
theorem dL_law_427 : decode cL_law 427 = .ok (.iconst 0, 1) := by decide +kernel
theorem dL_law_428 : decode cL_law 428 = .ok (.ireturn, 1) := by decide +kernel
theorem dL_law_429 : decode cL_law 429 = .ok (.goto 1236, 3) := by decide +kernel
theorem dL_law_432 : decode cL_law 432 = .ok (.aload_n 1, 1) := by decide +kernel
theorem dL_law_433 : decode cL_law 433 = .ok (.aload_n 0, 1) := by decide +kernel
theorem dL_law_434 : decode cL_law 434 = .ok (.iload 4, 2) := by decide +kernel
theorem dL_law_436 : decode cL_law 436 = .ok (.iconst 1, 1) := by decide +kernel
theorem dL_law_437 : decode cL_law 437 = .ok (.iadd, 1) := by decide +kernel
theorem dL_law_438 : decode cL_law 438 = .ok (.iaload, 1) := by decide +kernel
theorem dL_law_439 : decode cL_law 439 = .ok (.aload_n 0, 1) := by decide +kernel
theorem dL_law_440 : decode cL_law 440 = .ok (.iload 4, 2) := by decide +kernel
theorem dL_law_442 : decode cL_law 442 = .ok (.iconst 2, 1) := by decide +kernel
theorem dL_law_443 : decode cL_law 443 = .ok (.iadd, 1) := by decide +kernel
theorem dL_law_444 : decode cL_law 444 = .ok (.iaload, 1) := by decide +kernel
end
section
theorem dL_law_445 : decode cL_law 445 = .ok (.aload_n 3, 1) := by decide +kernel
theorem dL_law_446 : decode cL_law 446 = .ok (.invokestatic 120, 3) := by decide +kernel
theorem dL_law_449 : decode cL_law 449 = .ok (.istore 5, 2) := by decide +kernel
theorem dL_law_451 : decode cL_law 451 = .ok (.aload_n 2, 1) := by decide +kernel
theorem dL_law_452 : decode cL_law 452 = .ok (.aload_n 0, 1) := by decide +kernel
theorem dL_law_453 : decode cL_law 453 = .ok (.iload 4, 2) := by decide +kernel
theorem dL_law_455 : decode cL_law 455 = .ok (.iconst 1, 1) := by decide +kernel
theorem dL_law_456 : decode cL_law 456 = .ok (.iadd, 1) := by decide +kernel
theorem dL_law_457 : decode cL_law 457 = .ok (.iaload, 1) := by decide +kernel
theorem dL_law_458 : decode cL_law 458 = .ok (.aload_n 0, 1) := by decide +kernel
theorem dL_law_459 : decode cL_law 459 = .ok (.iload 4, 2) := by decide +kernel
theorem dL_law_461 : decode cL_law 461 = .ok (.iconst 2, 1) := by decide +kernel
theorem dL_law_462 : decode cL_law 462 = .ok (.iadd, 1) := by decide +kernel
theorem dL_law_463 : decode cL_law 463 = .ok (.iaload, 1) := by decide +kernel
theorem dL_law_464 : decode cL_law 464 = .ok (.invokevirtual 123, 3) := by decide +kernel
theorem dL_law_467 : decode cL_law 467 = .ok (.istore 6, 2) := by decide +kernel
theorem dL_law_469 : decode cL_law 469 = .ok (.aload_n 2, 1) := by decide +kernel
theorem dL_law_470 : decode cL_law 470 = .ok (.invokevirtual 106, 3) := by decide +kernel
theorem dL_law_473 : decode cL_law 473 = .ok (.iload 5, 2) := by decide +kernel
theorem dL_law_475 : decode cL_law 475 = .ok (.if_icmp .eq 5, 3) := by decide +kernel
theorem dL_law_478 : decode cL_law 478 = .ok (.iconst 0, 1) := by decide +kernel
theorem dL_law_479 : decode cL_law 479 = .ok (.ireturn, 1) := by decide +kernel
theorem dL_law_480 : decode cL_law 480 = .ok (.iload 5, 2) := by decide +kernel
theorem dL_law_482 : decode cL_law 482 = .ok (.ifCond .ne 22, 3) := by decide +kernel
theorem dL_law_485 : decode cL_law 485 = .ok (.aload_n 3, 1) := by decide +kernel
theorem dL_law_486 : decode cL_law 486 = .ok (.iconst 0, 1) := by decide +kernel
theorem dL_law_487 : decode cL_law 487 = .ok (.laload, 1) := by decide +kernel
theorem dL_law_488 : decode cL_law 488 = .ok (.iload 6, 2) := by decide +kernel
theorem dL_law_490 : decode cL_law 490 = .ok (.ifCond .eq 7, 3) := by decide +kernel
theorem dL_law_493 : decode cL_law 493 = .ok (.lconst 1, 1) := by decide +kernel
theorem dL_law_494 : decode cL_law 494 = .ok (.goto 4, 3) := by decide +kernel
theorem dL_law_497 : decode cL_law 497 = .ok (.lconst 0, 1) := by decide +kernel
theorem dL_law_498 : decode cL_law 498 = .ok (.lcmp, 1) := by decide +kernel
theorem dL_law_499 : decode cL_law 499 = .ok (.ifCond .eq 5, 3) := by decide +kernel
theorem dL_law_502 : decode cL_law 502 = .ok (.iconst 0, 1) := by decide +kernel
theorem dL_law_503 : decode cL_law 503 = .ok (.ireturn, 1) := by decide +kernel
theorem dL_law_504 : decode cL_law 504 = .ok (.goto 1161, 3) := by decide +kernel
theorem dL_law_507 : decode cL_law 507 = .ok (.aload_n 1, 1) := by decide +kernel
theorem dL_law_508 : decode cL_law 508 = .ok (.aload_n 0, 1) := by decide +kernel
theorem dL_law_509 : decode cL_law 509 = .ok (.iload 4, 2) := by decide +kernel
theorem dL_law_511 : decode cL_law 511 = .ok (.iconst 1, 1) := by decide +kernel
theorem dL_law_512 : decode cL_law 512 = .ok (.iadd, 1) := by decide +kernel
theorem dL_law_513 : decode cL_law 513 = .ok (.iaload, 1) := by decide +kernel
theorem dL_law_514 : decode cL_law 514 = .ok (.aload_n 0, 1) := by decide +kernel
theorem dL_law_515 : decode cL_law 515 = .ok (.iload 4, 2) := by decide +kernel
theorem dL_law_517 : decode cL_law 517 = .ok (.iconst 2, 1) := by decide +kernel
theorem dL_law_518 : decode cL_law 518 = .ok (.iadd, 1) := by decide +kernel
theorem dL_law_519 : decode cL_law 519 = .ok (.iaload, 1) := by decide +kernel
theorem dL_law_520 : decode cL_law 520 = .ok (.aload_n 3, 1) := by decide +kernel
theorem dL_law_521 : decode cL_law 521 = .ok (.invokestatic 124, 3) := by decide +kernel
theorem dL_law_524 : decode cL_law 524 = .ok (.istore 5, 2) := by decide +kernel
theorem dL_law_526 : decode cL_law 526 = .ok (.aload_n 2, 1) := by decide +kernel
theorem dL_law_527 : decode cL_law 527 = .ok (.aload_n 0, 1) := by decide +kernel
theorem dL_law_528 : decode cL_law 528 = .ok (.iload 4, 2) := by decide +kernel
theorem dL_law_530 : decode cL_law 530 = .ok (.iconst 1, 1) := by decide +kernel
theorem dL_law_531 : decode cL_law 531 = .ok (.iadd, 1) := by decide +kernel
theorem dL_law_532 : decode cL_law 532 = .ok (.iaload, 1) := by decide +kernel
theorem dL_law_533 : decode cL_law 533 = .ok (.aload_n 0, 1) := by decide +kernel
theorem dL_law_534 : decode cL_law 534 = .ok (.iload 4, 2) := by decide +kernel
theorem dL_law_536 : decode cL_law 536 = .ok (.iconst 2, 1) := by decide +kernel
theorem dL_law_537 : decode cL_law 537 = .ok (.iadd, 1) := by decide +kernel
theorem dL_law_538 : decode cL_law 538 = .ok (.iaload, 1) := by decide +kernel
theorem dL_law_539 : decode cL_law 539 = .ok (.invokevirtual 126, 3) := by decide +kernel
theorem dL_law_542 : decode cL_law 542 = .ok (.istore 6, 2) := by decide +kernel
theorem dL_law_544 : decode cL_law 544 = .ok (.aload_n 2, 1) := by decide +kernel
theorem dL_law_545 : decode cL_law 545 = .ok (.invokevirtual 106, 3) := by decide +kernel
theorem dL_law_548 : decode cL_law 548 = .ok (.iload 5, 2) := by decide +kernel
theorem dL_law_550 : decode cL_law 550 = .ok (.if_icmp .eq 5, 3) := by decide +kernel
theorem dL_law_553 : decode cL_law 553 = .ok (.iconst 0, 1) := by decide +kernel
theorem dL_law_554 : decode cL_law 554 = .ok (.ireturn, 1) := by decide +kernel
theorem dL_law_555 : decode cL_law 555 = .ok (.iload 5, 2) := by decide +kernel
theorem dL_law_557 : decode cL_law 557 = .ok (.ifCond .ne 15, 3) := by decide +kernel
theorem dL_law_560 : decode cL_law 560 = .ok (.aload_n 3, 1) := by decide +kernel
theorem dL_law_561 : decode cL_law 561 = .ok (.iconst 0, 1) := by decide +kernel
theorem dL_law_562 : decode cL_law 562 = .ok (.laload, 1) := by decide +kernel
theorem dL_law_563 : decode cL_law 563 = .ok (.iload 6, 2) := by decide +kernel
theorem dL_law_565 : decode cL_law 565 = .ok (.i2l, 1) := by decide +kernel
theorem dL_law_566 : decode cL_law 566 = .ok (.lcmp, 1) := by decide +kernel
theorem dL_law_567 : decode cL_law 567 = .ok (.ifCond .eq 5, 3) := by decide +kernel
theorem dL_law_570 : decode cL_law 570 = .ok (.iconst 0, 1) := by decide +kernel
theorem dL_law_571 : decode cL_law 571 = .ok (.ireturn, 1) := by decide +kernel
theorem dL_law_572 : decode cL_law 572 = .ok (.goto 1093, 3) := by decide +kernel
theorem dL_law_575 : decode cL_law 575 = .ok (.aload_n 1, 1) := by decide +kernel
theorem dL_law_576 : decode cL_law 576 = .ok (.aload_n 0, 1) := by decide +kernel
theorem dL_law_577 : decode cL_law 577 = .ok (.iload 4, 2) := by decide +kernel
theorem dL_law_579 : decode cL_law 579 = .ok (.iconst 1, 1) := by decide +kernel
theorem dL_law_580 : decode cL_law 580 = .ok (.iadd, 1) := by decide +kernel
theorem dL_law_581 : decode cL_law 581 = .ok (.iaload, 1) := by decide +kernel
theorem dL_law_582 : decode cL_law 582 = .ok (.aload_n 0, 1) := by decide +kernel
theorem dL_law_583 : decode cL_law 583 = .ok (.iload 4, 2) := by decide +kernel
theorem dL_law_585 : decode cL_law 585 = .ok (.iconst 2, 1) := by decide +kernel
theorem dL_law_586 : decode cL_law 586 = .ok (.iadd, 1) := by decide +kernel
theorem dL_law_587 : decode cL_law 587 = .ok (.iaload, 1) := by decide +kernel
theorem dL_law_588 : decode cL_law 588 = .ok (.aload_n 3, 1) := by decide +kernel
theorem dL_law_589 : decode cL_law 589 = .ok (.invokestatic 127, 3) := by decide +kernel
theorem dL_law_592 : decode cL_law 592 = .ok (.istore 5, 2) := by decide +kernel
theorem dL_law_594 : decode cL_law 594 = .ok (.aload_n 2, 1) := by decide +kernel
theorem dL_law_595 : decode cL_law 595 = .ok (.aload_n 0, 1) := by decide +kernel
theorem dL_law_596 : decode cL_law 596 = .ok (.iload 4, 2) := by decide +kernel
theorem dL_law_598 : decode cL_law 598 = .ok (.iconst 1, 1) := by decide +kernel
theorem dL_law_599 : decode cL_law 599 = .ok (.iadd, 1) := by decide +kernel
theorem dL_law_600 : decode cL_law 600 = .ok (.iaload, 1) := by decide +kernel
theorem dL_law_601 : decode cL_law 601 = .ok (.aload_n 0, 1) := by decide +kernel
theorem dL_law_602 : decode cL_law 602 = .ok (.iload 4, 2) := by decide +kernel
theorem dL_law_604 : decode cL_law 604 = .ok (.iconst 2, 1) := by decide +kernel
theorem dL_law_605 : decode cL_law 605 = .ok (.iadd, 1) := by decide +kernel
theorem dL_law_606 : decode cL_law 606 = .ok (.iaload, 1) := by decide +kernel
theorem dL_law_607 : decode cL_law 607 = .ok (.invokevirtual 129, 3) := by decide +kernel
theorem dL_law_610 : decode cL_law 610 = .ok (.istore 6, 2) := by decide +kernel
theorem dL_law_612 : decode cL_law 612 = .ok (.aload_n 2, 1) := by decide +kernel
theorem dL_law_613 : decode cL_law 613 = .ok (.invokevirtual 106, 3) := by decide +kernel
theorem dL_law_616 : decode cL_law 616 = .ok (.iload 5, 2) := by decide +kernel
theorem dL_law_618 : decode cL_law 618 = .ok (.if_icmp .eq 5, 3) := by decide +kernel
theorem dL_law_621 : decode cL_law 621 = .ok (.iconst 0, 1) := by decide +kernel
theorem dL_law_622 : decode cL_law 622 = .ok (.ireturn, 1) := by decide +kernel
theorem dL_law_623 : decode cL_law 623 = .ok (.iload 5, 2) := by decide +kernel
theorem dL_law_625 : decode cL_law 625 = .ok (.ifCond .ne 15, 3) := by decide +kernel
theorem dL_law_628 : decode cL_law 628 = .ok (.aload_n 3, 1) := by decide +kernel
theorem dL_law_629 : decode cL_law 629 = .ok (.iconst 0, 1) := by decide +kernel
theorem dL_law_630 : decode cL_law 630 = .ok (.laload, 1) := by decide +kernel
theorem dL_law_631 : decode cL_law 631 = .ok (.iload 6, 2) := by decide +kernel
theorem dL_law_633 : decode cL_law 633 = .ok (.i2l, 1) := by decide +kernel
theorem dL_law_634 : decode cL_law 634 = .ok (.lcmp, 1) := by decide +kernel
theorem dL_law_635 : decode cL_law 635 = .ok (.ifCond .eq 5, 3) := by decide +kernel
theorem dL_law_638 : decode cL_law 638 = .ok (.iconst 0, 1) := by decide +kernel
theorem dL_law_639 : decode cL_law 639 = .ok (.ireturn, 1) := by decide +kernel
theorem dL_law_640 : decode cL_law 640 = .ok (.goto 1025, 3) := by decide +kernel
theorem dL_law_643 : decode cL_law 643 = .ok (.aload_n 1, 1) := by decide +kernel
theorem dL_law_644 : decode cL_law 644 = .ok (.aload_n 0, 1) := by decide +kernel
theorem dL_law_645 : decode cL_law 645 = .ok (.iload 4, 2) := by decide +kernel
theorem dL_law_647 : decode cL_law 647 = .ok (.iconst 1, 1) := by decide +kernel
theorem dL_law_648 : decode cL_law 648 = .ok (.iadd, 1) := by decide +kernel
theorem dL_law_649 : decode cL_law 649 = .ok (.iaload, 1) := by decide +kernel
theorem dL_law_650 : decode cL_law 650 = .ok (.aload_n 3, 1) := by decide +kernel
theorem dL_law_651 : decode cL_law 651 = .ok (.invokestatic 130, 3) := by decide +kernel
theorem dL_law_654 : decode cL_law 654 = .ok (.istore 5, 2) := by decide +kernel
theorem dL_law_656 : decode cL_law 656 = .ok (.aload_n 2, 1) := by decide +kernel
theorem dL_law_657 : decode cL_law 657 = .ok (.aload_n 0, 1) := by decide +kernel
theorem dL_law_658 : decode cL_law 658 = .ok (.iload 4, 2) := by decide +kernel
theorem dL_law_660 : decode cL_law 660 = .ok (.iconst 1, 1) := by decide +kernel
theorem dL_law_661 : decode cL_law 661 = .ok (.iadd, 1) := by decide +kernel
theorem dL_law_662 : decode cL_law 662 = .ok (.iaload, 1) := by decide +kernel
theorem dL_law_663 : decode cL_law 663 = .ok (.invokevirtual 132, 3) := by decide +kernel
theorem dL_law_666 : decode cL_law 666 = .ok (.istore 6, 2) := by decide +kernel
theorem dL_law_668 : decode cL_law 668 = .ok (.aload_n 2, 1) := by decide +kernel
theorem dL_law_669 : decode cL_law 669 = .ok (.invokevirtual 106, 3) := by decide +kernel
theorem dL_law_672 : decode cL_law 672 = .ok (.iload 5, 2) := by decide +kernel
theorem dL_law_674 : decode cL_law 674 = .ok (.if_icmp .eq 5, 3) := by decide +kernel
theorem dL_law_677 : decode cL_law 677 = .ok (.iconst 0, 1) := by decide +kernel
theorem dL_law_678 : decode cL_law 678 = .ok (.ireturn, 1) := by decide +kernel
theorem dL_law_679 : decode cL_law 679 = .ok (.iload 5, 2) := by decide +kernel
theorem dL_law_681 : decode cL_law 681 = .ok (.ifCond .ne 15, 3) := by decide +kernel
theorem dL_law_684 : decode cL_law 684 = .ok (.aload_n 3, 1) := by decide +kernel
theorem dL_law_685 : decode cL_law 685 = .ok (.iconst 0, 1) := by decide +kernel
theorem dL_law_686 : decode cL_law 686 = .ok (.laload, 1) := by decide +kernel
theorem dL_law_687 : decode cL_law 687 = .ok (.iload 6, 2) := by decide +kernel
theorem dL_law_689 : decode cL_law 689 = .ok (.i2l, 1) := by decide +kernel
theorem dL_law_690 : decode cL_law 690 = .ok (.lcmp, 1) := by decide +kernel
theorem dL_law_691 : decode cL_law 691 = .ok (.ifCond .eq 5, 3) := by decide +kernel
theorem dL_law_694 : decode cL_law 694 = .ok (.iconst 0, 1) := by decide +kernel
theorem dL_law_695 : decode cL_law 695 = .ok (.ireturn, 1) := by decide +kernel
theorem dL_law_696 : decode cL_law 696 = .ok (.goto 969, 3) := by decide +kernel
theorem dL_law_699 : decode cL_law 699 = .ok (.aload_n 1, 1) := by decide +kernel
theorem dL_law_700 : decode cL_law 700 = .ok (.aload_n 0, 1) := by decide +kernel
theorem dL_law_701 : decode cL_law 701 = .ok (.iload 4, 2) := by decide +kernel
theorem dL_law_703 : decode cL_law 703 = .ok (.iconst 1, 1) := by decide +kernel
theorem dL_law_704 : decode cL_law 704 = .ok (.iadd, 1) := by decide +kernel
theorem dL_law_705 : decode cL_law 705 = .ok (.iaload, 1) := by decide +kernel
theorem dL_law_706 : decode cL_law 706 = .ok (.aload_n 0, 1) := by decide +kernel
theorem dL_law_707 : decode cL_law 707 = .ok (.iload 4, 2) := by decide +kernel
theorem dL_law_709 : decode cL_law 709 = .ok (.iconst 2, 1) := by decide +kernel
theorem dL_law_710 : decode cL_law 710 = .ok (.iadd, 1) := by decide +kernel
theorem dL_law_711 : decode cL_law 711 = .ok (.iaload, 1) := by decide +kernel
theorem dL_law_712 : decode cL_law 712 = .ok (.aload_n 3, 1) := by decide +kernel
theorem dL_law_713 : decode cL_law 713 = .ok (.invokestatic 133, 3) := by decide +kernel
theorem dL_law_716 : decode cL_law 716 = .ok (.istore 5, 2) := by decide +kernel
theorem dL_law_718 : decode cL_law 718 = .ok (.aload_n 2, 1) := by decide +kernel
theorem dL_law_719 : decode cL_law 719 = .ok (.aload_n 0, 1) := by decide +kernel
theorem dL_law_720 : decode cL_law 720 = .ok (.iload 4, 2) := by decide +kernel
theorem dL_law_722 : decode cL_law 722 = .ok (.iconst 1, 1) := by decide +kernel
theorem dL_law_723 : decode cL_law 723 = .ok (.iadd, 1) := by decide +kernel
theorem dL_law_724 : decode cL_law 724 = .ok (.iaload, 1) := by decide +kernel
theorem dL_law_725 : decode cL_law 725 = .ok (.aload_n 0, 1) := by decide +kernel
theorem dL_law_726 : decode cL_law 726 = .ok (.iload 4, 2) := by decide +kernel
theorem dL_law_728 : decode cL_law 728 = .ok (.iconst 2, 1) := by decide +kernel
theorem dL_law_729 : decode cL_law 729 = .ok (.iadd, 1) := by decide +kernel
theorem dL_law_730 : decode cL_law 730 = .ok (.iaload, 1) := by decide +kernel
theorem dL_law_731 : decode cL_law 731 = .ok (.invokevirtual 135, 3) := by decide +kernel
theorem dL_law_734 : decode cL_law 734 = .ok (.lstore 6, 2) := by decide +kernel
theorem dL_law_736 : decode cL_law 736 = .ok (.aload_n 2, 1) := by decide +kernel
theorem dL_law_737 : decode cL_law 737 = .ok (.invokevirtual 106, 3) := by decide +kernel
theorem dL_law_740 : decode cL_law 740 = .ok (.iload 5, 2) := by decide +kernel
theorem dL_law_742 : decode cL_law 742 = .ok (.if_icmp .eq 5, 3) := by decide +kernel
theorem dL_law_745 : decode cL_law 745 = .ok (.iconst 0, 1) := by decide +kernel
theorem dL_law_746 : decode cL_law 746 = .ok (.ireturn, 1) := by decide +kernel
theorem dL_law_747 : decode cL_law 747 = .ok (.iload 5, 2) := by decide +kernel
theorem dL_law_749 : decode cL_law 749 = .ok (.ifCond .ne 14, 3) := by decide +kernel
theorem dL_law_752 : decode cL_law 752 = .ok (.aload_n 3, 1) := by decide +kernel
theorem dL_law_753 : decode cL_law 753 = .ok (.iconst 0, 1) := by decide +kernel
theorem dL_law_754 : decode cL_law 754 = .ok (.laload, 1) := by decide +kernel
theorem dL_law_755 : decode cL_law 755 = .ok (.lload 6, 2) := by decide +kernel
theorem dL_law_757 : decode cL_law 757 = .ok (.lcmp, 1) := by decide +kernel
theorem dL_law_758 : decode cL_law 758 = .ok (.ifCond .eq 5, 3) := by decide +kernel
theorem dL_law_761 : decode cL_law 761 = .ok (.iconst 0, 1) := by decide +kernel
theorem dL_law_762 : decode cL_law 762 = .ok (.ireturn, 1) := by decide +kernel
theorem dL_law_763 : decode cL_law 763 = .ok (.goto 902, 3) := by decide +kernel
theorem dL_law_766 : decode cL_law 766 = .ok (.aload_n 1, 1) := by decide +kernel
theorem dL_law_767 : decode cL_law 767 = .ok (.aload_n 0, 1) := by decide +kernel
theorem dL_law_768 : decode cL_law 768 = .ok (.iload 4, 2) := by decide +kernel
theorem dL_law_770 : decode cL_law 770 = .ok (.iconst 1, 1) := by decide +kernel
theorem dL_law_771 : decode cL_law 771 = .ok (.iadd, 1) := by decide +kernel
theorem dL_law_772 : decode cL_law 772 = .ok (.iaload, 1) := by decide +kernel
theorem dL_law_773 : decode cL_law 773 = .ok (.aload_n 0, 1) := by decide +kernel
theorem dL_law_774 : decode cL_law 774 = .ok (.iload 4, 2) := by decide +kernel
theorem dL_law_776 : decode cL_law 776 = .ok (.iconst 2, 1) := by decide +kernel
theorem dL_law_777 : decode cL_law 777 = .ok (.iadd, 1) := by decide +kernel
theorem dL_law_778 : decode cL_law 778 = .ok (.iaload, 1) := by decide +kernel
theorem dL_law_779 : decode cL_law 779 = .ok (.aload_n 0, 1) := by decide +kernel
theorem dL_law_780 : decode cL_law 780 = .ok (.iload 4, 2) := by decide +kernel
theorem dL_law_782 : decode cL_law 782 = .ok (.iconst 3, 1) := by decide +kernel
theorem dL_law_783 : decode cL_law 783 = .ok (.iadd, 1) := by decide +kernel
theorem dL_law_784 : decode cL_law 784 = .ok (.iaload, 1) := by decide +kernel
theorem dL_law_785 : decode cL_law 785 = .ok (.i2l, 1) := by decide +kernel
theorem dL_law_786 : decode cL_law 786 = .ok (.bipush 32, 2) := by decide +kernel
theorem dL_law_788 : decode cL_law 788 = .ok (.lshl, 1) := by decide +kernel
theorem dL_law_789 : decode cL_law 789 = .ok (.aload_n 0, 1) := by decide +kernel
theorem dL_law_790 : decode cL_law 790 = .ok (.iload 4, 2) := by decide +kernel
theorem dL_law_792 : decode cL_law 792 = .ok (.iconst 4, 1) := by decide +kernel
theorem dL_law_793 : decode cL_law 793 = .ok (.iadd, 1) := by decide +kernel
theorem dL_law_794 : decode cL_law 794 = .ok (.iaload, 1) := by decide +kernel
theorem dL_law_795 : decode cL_law 795 = .ok (.i2l, 1) := by decide +kernel
theorem dL_law_796 : decode cL_law 796 = .ok (.ldc2_w 136, 3) := by decide +kernel
theorem dL_law_799 : decode cL_law 799 = .ok (.land, 1) := by decide +kernel
theorem dL_law_800 : decode cL_law 800 = .ok (.lor, 1) := by decide +kernel
theorem dL_law_801 : decode cL_law 801 = .ok (.aload_n 3, 1) := by decide +kernel
theorem dL_law_802 : decode cL_law 802 = .ok (.invokestatic 138, 3) := by decide +kernel
theorem dL_law_805 : decode cL_law 805 = .ok (.istore 5, 2) := by decide +kernel
theorem dL_law_807 : decode cL_law 807 = .ok (.aload_n 2, 1) := by decide +kernel
theorem dL_law_808 : decode cL_law 808 = .ok (.aload_n 0, 1) := by decide +kernel
theorem dL_law_809 : decode cL_law 809 = .ok (.iload 4, 2) := by decide +kernel
theorem dL_law_811 : decode cL_law 811 = .ok (.iconst 1, 1) := by decide +kernel
theorem dL_law_812 : decode cL_law 812 = .ok (.iadd, 1) := by decide +kernel
theorem dL_law_813 : decode cL_law 813 = .ok (.iaload, 1) := by decide +kernel
theorem dL_law_814 : decode cL_law 814 = .ok (.aload_n 0, 1) := by decide +kernel
theorem dL_law_815 : decode cL_law 815 = .ok (.iload 4, 2) := by decide +kernel
theorem dL_law_817 : decode cL_law 817 = .ok (.iconst 2, 1) := by decide +kernel
theorem dL_law_818 : decode cL_law 818 = .ok (.iadd, 1) := by decide +kernel
theorem dL_law_819 : decode cL_law 819 = .ok (.iaload, 1) := by decide +kernel
theorem dL_law_820 : decode cL_law 820 = .ok (.aload_n 0, 1) := by decide +kernel
theorem dL_law_821 : decode cL_law 821 = .ok (.iload 4, 2) := by decide +kernel
theorem dL_law_823 : decode cL_law 823 = .ok (.iconst 3, 1) := by decide +kernel
theorem dL_law_824 : decode cL_law 824 = .ok (.iadd, 1) := by decide +kernel
theorem dL_law_825 : decode cL_law 825 = .ok (.iaload, 1) := by decide +kernel
theorem dL_law_826 : decode cL_law 826 = .ok (.i2l, 1) := by decide +kernel
theorem dL_law_827 : decode cL_law 827 = .ok (.bipush 32, 2) := by decide +kernel
theorem dL_law_829 : decode cL_law 829 = .ok (.lshl, 1) := by decide +kernel
theorem dL_law_830 : decode cL_law 830 = .ok (.aload_n 0, 1) := by decide +kernel
theorem dL_law_831 : decode cL_law 831 = .ok (.iload 4, 2) := by decide +kernel
theorem dL_law_833 : decode cL_law 833 = .ok (.iconst 4, 1) := by decide +kernel
theorem dL_law_834 : decode cL_law 834 = .ok (.iadd, 1) := by decide +kernel
theorem dL_law_835 : decode cL_law 835 = .ok (.iaload, 1) := by decide +kernel
theorem dL_law_836 : decode cL_law 836 = .ok (.i2l, 1) := by decide +kernel
theorem dL_law_837 : decode cL_law 837 = .ok (.ldc2_w 136, 3) := by decide +kernel
theorem dL_law_840 : decode cL_law 840 = .ok (.land, 1) := by decide +kernel
theorem dL_law_841 : decode cL_law 841 = .ok (.lor, 1) := by decide +kernel
theorem dL_law_842 : decode cL_law 842 = .ok (.invokevirtual 141, 3) := by decide +kernel
theorem dL_law_845 : decode cL_law 845 = .ok (.lstore 6, 2) := by decide +kernel
theorem dL_law_847 : decode cL_law 847 = .ok (.aload_n 2, 1) := by decide +kernel
theorem dL_law_848 : decode cL_law 848 = .ok (.invokevirtual 106, 3) := by decide +kernel
theorem dL_law_851 : decode cL_law 851 = .ok (.iload 5, 2) := by decide +kernel
theorem dL_law_853 : decode cL_law 853 = .ok (.if_icmp .eq 5, 3) := by decide +kernel
theorem dL_law_856 : decode cL_law 856 = .ok (.iconst 0, 1) := by decide +kernel
theorem dL_law_857 : decode cL_law 857 = .ok (.ireturn, 1) := by decide +kernel
theorem dL_law_858 : decode cL_law 858 = .ok (.iload 5, 2) := by decide +kernel
theorem dL_law_860 : decode cL_law 860 = .ok (.ifCond .ne 14, 3) := by decide +kernel
theorem dL_law_863 : decode cL_law 863 = .ok (.aload_n 3, 1) := by decide +kernel
theorem dL_law_864 : decode cL_law 864 = .ok (.iconst 0, 1) := by decide +kernel
theorem dL_law_865 : decode cL_law 865 = .ok (.laload, 1) := by decide +kernel
theorem dL_law_866 : decode cL_law 866 = .ok (.lload 6, 2) := by decide +kernel
theorem dL_law_868 : decode cL_law 868 = .ok (.lcmp, 1) := by decide +kernel
theorem dL_law_869 : decode cL_law 869 = .ok (.ifCond .eq 5, 3) := by decide +kernel
theorem dL_law_872 : decode cL_law 872 = .ok (.iconst 0, 1) := by decide +kernel
theorem dL_law_873 : decode cL_law 873 = .ok (.ireturn, 1) := by decide +kernel
theorem dL_law_874 : decode cL_law 874 = .ok (.goto 791, 3) := by decide +kernel
theorem dL_law_877 : decode cL_law 877 = .ok (.aload_n 1, 1) := by decide +kernel
theorem dL_law_878 : decode cL_law 878 = .ok (.aload_n 0, 1) := by decide +kernel
theorem dL_law_879 : decode cL_law 879 = .ok (.iload 4, 2) := by decide +kernel
theorem dL_law_881 : decode cL_law 881 = .ok (.iconst 1, 1) := by decide +kernel
theorem dL_law_882 : decode cL_law 882 = .ok (.iadd, 1) := by decide +kernel
theorem dL_law_883 : decode cL_law 883 = .ok (.iaload, 1) := by decide +kernel
theorem dL_law_884 : decode cL_law 884 = .ok (.aload_n 0, 1) := by decide +kernel
theorem dL_law_885 : decode cL_law 885 = .ok (.iload 4, 2) := by decide +kernel
theorem dL_law_887 : decode cL_law 887 = .ok (.iconst 2, 1) := by decide +kernel
theorem dL_law_888 : decode cL_law 888 = .ok (.iadd, 1) := by decide +kernel
theorem dL_law_889 : decode cL_law 889 = .ok (.iaload, 1) := by decide +kernel
theorem dL_law_890 : decode cL_law 890 = .ok (.aload_n 0, 1) := by decide +kernel
theorem dL_law_891 : decode cL_law 891 = .ok (.iload 4, 2) := by decide +kernel
theorem dL_law_893 : decode cL_law 893 = .ok (.iconst 3, 1) := by decide +kernel
theorem dL_law_894 : decode cL_law 894 = .ok (.iadd, 1) := by decide +kernel
theorem dL_law_895 : decode cL_law 895 = .ok (.iaload, 1) := by decide +kernel
theorem dL_law_896 : decode cL_law 896 = .ok (.aload_n 3, 1) := by decide +kernel
theorem dL_law_897 : decode cL_law 897 = .ok (.invokestatic 142, 3) := by decide +kernel
theorem dL_law_900 : decode cL_law 900 = .ok (.istore 5, 2) := by decide +kernel
theorem dL_law_902 : decode cL_law 902 = .ok (.aload_n 2, 1) := by decide +kernel
theorem dL_law_903 : decode cL_law 903 = .ok (.aload_n 0, 1) := by decide +kernel
theorem dL_law_904 : decode cL_law 904 = .ok (.iload 4, 2) := by decide +kernel
theorem dL_law_906 : decode cL_law 906 = .ok (.iconst 1, 1) := by decide +kernel
theorem dL_law_907 : decode cL_law 907 = .ok (.iadd, 1) := by decide +kernel
theorem dL_law_908 : decode cL_law 908 = .ok (.iaload, 1) := by decide +kernel
theorem dL_law_909 : decode cL_law 909 = .ok (.aload_n 0, 1) := by decide +kernel
theorem dL_law_910 : decode cL_law 910 = .ok (.iload 4, 2) := by decide +kernel
theorem dL_law_912 : decode cL_law 912 = .ok (.iconst 2, 1) := by decide +kernel
theorem dL_law_913 : decode cL_law 913 = .ok (.iadd, 1) := by decide +kernel
theorem dL_law_914 : decode cL_law 914 = .ok (.iaload, 1) := by decide +kernel
theorem dL_law_915 : decode cL_law 915 = .ok (.aload_n 0, 1) := by decide +kernel
theorem dL_law_916 : decode cL_law 916 = .ok (.iload 4, 2) := by decide +kernel
theorem dL_law_918 : decode cL_law 918 = .ok (.iconst 3, 1) := by decide +kernel
theorem dL_law_919 : decode cL_law 919 = .ok (.iadd, 1) := by decide +kernel
theorem dL_law_920 : decode cL_law 920 = .ok (.iaload, 1) := by decide +kernel
theorem dL_law_921 : decode cL_law 921 = .ok (.invokevirtual 144, 3) := by decide +kernel
theorem dL_law_924 : decode cL_law 924 = .ok (.istore 6, 2) := by decide +kernel
theorem dL_law_926 : decode cL_law 926 = .ok (.aload_n 2, 1) := by decide +kernel
theorem dL_law_927 : decode cL_law 927 = .ok (.invokevirtual 106, 3) := by decide +kernel
theorem dL_law_930 : decode cL_law 930 = .ok (.iload 5, 2) := by decide +kernel
theorem dL_law_932 : decode cL_law 932 = .ok (.if_icmp .eq 5, 3) := by decide +kernel
theorem dL_law_935 : decode cL_law 935 = .ok (.iconst 0, 1) := by decide +kernel
theorem dL_law_936 : decode cL_law 936 = .ok (.ireturn, 1) := by decide +kernel
theorem dL_law_937 : decode cL_law 937 = .ok (.iload 5, 2) := by decide +kernel
theorem dL_law_939 : decode cL_law 939 = .ok (.ifCond .ne 15, 3) := by decide +kernel
theorem dL_law_942 : decode cL_law 942 = .ok (.aload_n 3, 1) := by decide +kernel
theorem dL_law_943 : decode cL_law 943 = .ok (.iconst 0, 1) := by decide +kernel
theorem dL_law_944 : decode cL_law 944 = .ok (.laload, 1) := by decide +kernel
theorem dL_law_945 : decode cL_law 945 = .ok (.iload 6, 2) := by decide +kernel
theorem dL_law_947 : decode cL_law 947 = .ok (.i2l, 1) := by decide +kernel
theorem dL_law_948 : decode cL_law 948 = .ok (.lcmp, 1) := by decide +kernel
theorem dL_law_949 : decode cL_law 949 = .ok (.ifCond .eq 5, 3) := by decide +kernel
theorem dL_law_952 : decode cL_law 952 = .ok (.iconst 0, 1) := by decide +kernel
theorem dL_law_953 : decode cL_law 953 = .ok (.ireturn, 1) := by decide +kernel
theorem dL_law_954 : decode cL_law 954 = .ok (.goto 711, 3) := by decide +kernel
theorem dL_law_957 : decode cL_law 957 = .ok (.aload_n 1, 1) := by decide +kernel
theorem dL_law_958 : decode cL_law 958 = .ok (.aload_n 0, 1) := by decide +kernel
theorem dL_law_959 : decode cL_law 959 = .ok (.iload 4, 2) := by decide +kernel
theorem dL_law_961 : decode cL_law 961 = .ok (.iconst 1, 1) := by decide +kernel
theorem dL_law_962 : decode cL_law 962 = .ok (.iadd, 1) := by decide +kernel
theorem dL_law_963 : decode cL_law 963 = .ok (.iaload, 1) := by decide +kernel
theorem dL_law_964 : decode cL_law 964 = .ok (.aload_n 0, 1) := by decide +kernel
theorem dL_law_965 : decode cL_law 965 = .ok (.iload 4, 2) := by decide +kernel
theorem dL_law_967 : decode cL_law 967 = .ok (.iconst 2, 1) := by decide +kernel
theorem dL_law_968 : decode cL_law 968 = .ok (.iadd, 1) := by decide +kernel
theorem dL_law_969 : decode cL_law 969 = .ok (.iaload, 1) := by decide +kernel
theorem dL_law_970 : decode cL_law 970 = .ok (.aload_n 0, 1) := by decide +kernel
theorem dL_law_971 : decode cL_law 971 = .ok (.iload 4, 2) := by decide +kernel
theorem dL_law_973 : decode cL_law 973 = .ok (.iconst 3, 1) := by decide +kernel
theorem dL_law_974 : decode cL_law 974 = .ok (.iadd, 1) := by decide +kernel
theorem dL_law_975 : decode cL_law 975 = .ok (.iaload, 1) := by decide +kernel
theorem dL_law_976 : decode cL_law 976 = .ok (.aload_n 0, 1) := by decide +kernel
theorem dL_law_977 : decode cL_law 977 = .ok (.iload 4, 2) := by decide +kernel
theorem dL_law_979 : decode cL_law 979 = .ok (.iconst 4, 1) := by decide +kernel
theorem dL_law_980 : decode cL_law 980 = .ok (.iadd, 1) := by decide +kernel
theorem dL_law_981 : decode cL_law 981 = .ok (.iaload, 1) := by decide +kernel
theorem dL_law_982 : decode cL_law 982 = .ok (.aload_n 0, 1) := by decide +kernel
theorem dL_law_983 : decode cL_law 983 = .ok (.iload 4, 2) := by decide +kernel
theorem dL_law_985 : decode cL_law 985 = .ok (.iconst 5, 1) := by decide +kernel
theorem dL_law_986 : decode cL_law 986 = .ok (.iadd, 1) := by decide +kernel
theorem dL_law_987 : decode cL_law 987 = .ok (.iaload, 1) := by decide +kernel
theorem dL_law_988 : decode cL_law 988 = .ok (.invokestatic 145, 3) := by decide +kernel
theorem dL_law_991 : decode cL_law 991 = .ok (.istore 5, 2) := by decide +kernel
theorem dL_law_993 : decode cL_law 993 = .ok (.aload_n 2, 1) := by decide +kernel
theorem dL_law_994 : decode cL_law 994 = .ok (.aload_n 0, 1) := by decide +kernel
theorem dL_law_995 : decode cL_law 995 = .ok (.iload 4, 2) := by decide +kernel
theorem dL_law_997 : decode cL_law 997 = .ok (.iconst 1, 1) := by decide +kernel
theorem dL_law_998 : decode cL_law 998 = .ok (.iadd, 1) := by decide +kernel
theorem dL_law_999 : decode cL_law 999 = .ok (.iaload, 1) := by decide +kernel
theorem dL_law_1000 : decode cL_law 1000 = .ok (.aload_n 0, 1) := by decide +kernel
theorem dL_law_1001 : decode cL_law 1001 = .ok (.iload 4, 2) := by decide +kernel
theorem dL_law_1003 : decode cL_law 1003 = .ok (.iconst 2, 1) := by decide +kernel
theorem dL_law_1004 : decode cL_law 1004 = .ok (.iadd, 1) := by decide +kernel
theorem dL_law_1005 : decode cL_law 1005 = .ok (.iaload, 1) := by decide +kernel
theorem dL_law_1006 : decode cL_law 1006 = .ok (.aload_n 0, 1) := by decide +kernel
theorem dL_law_1007 : decode cL_law 1007 = .ok (.iload 4, 2) := by decide +kernel
theorem dL_law_1009 : decode cL_law 1009 = .ok (.iconst 3, 1) := by decide +kernel
theorem dL_law_1010 : decode cL_law 1010 = .ok (.iadd, 1) := by decide +kernel
theorem dL_law_1011 : decode cL_law 1011 = .ok (.iaload, 1) := by decide +kernel
theorem dL_law_1012 : decode cL_law 1012 = .ok (.aload_n 0, 1) := by decide +kernel
theorem dL_law_1013 : decode cL_law 1013 = .ok (.iload 4, 2) := by decide +kernel
theorem dL_law_1015 : decode cL_law 1015 = .ok (.iconst 4, 1) := by decide +kernel
theorem dL_law_1016 : decode cL_law 1016 = .ok (.iadd, 1) := by decide +kernel
theorem dL_law_1017 : decode cL_law 1017 = .ok (.iaload, 1) := by decide +kernel
theorem dL_law_1018 : decode cL_law 1018 = .ok (.aload_n 0, 1) := by decide +kernel
theorem dL_law_1019 : decode cL_law 1019 = .ok (.iload 4, 2) := by decide +kernel
theorem dL_law_1021 : decode cL_law 1021 = .ok (.iconst 5, 1) := by decide +kernel
theorem dL_law_1022 : decode cL_law 1022 = .ok (.iadd, 1) := by decide +kernel
theorem dL_law_1023 : decode cL_law 1023 = .ok (.iaload, 1) := by decide +kernel
theorem dL_law_1024 : decode cL_law 1024 = .ok (.invokevirtual 148, 3) := by decide +kernel
theorem dL_law_1027 : decode cL_law 1027 = .ok (.aload_n 2, 1) := by decide +kernel
theorem dL_law_1028 : decode cL_law 1028 = .ok (.invokevirtual 106, 3) := by decide +kernel
theorem dL_law_1031 : decode cL_law 1031 = .ok (.iload 5, 2) := by decide +kernel
theorem dL_law_1033 : decode cL_law 1033 = .ok (.if_icmp .eq 5, 3) := by decide +kernel
theorem dL_law_1036 : decode cL_law 1036 = .ok (.iconst 0, 1) := by decide +kernel
theorem dL_law_1037 : decode cL_law 1037 = .ok (.ireturn, 1) := by decide +kernel
theorem dL_law_1038 : decode cL_law 1038 = .ok (.goto 627, 3) := by decide +kernel
theorem dL_law_1041 : decode cL_law 1041 = .ok (.aload_n 1, 1) := by decide +kernel
theorem dL_law_1042 : decode cL_law 1042 = .ok (.aload_n 0, 1) := by decide +kernel
theorem dL_law_1043 : decode cL_law 1043 = .ok (.iload 4, 2) := by decide +kernel
theorem dL_law_1045 : decode cL_law 1045 = .ok (.iconst 1, 1) := by decide +kernel
theorem dL_law_1046 : decode cL_law 1046 = .ok (.iadd, 1) := by decide +kernel
theorem dL_law_1047 : decode cL_law 1047 = .ok (.iaload, 1) := by decide +kernel
theorem dL_law_1048 : decode cL_law 1048 = .ok (.aload_n 0, 1) := by decide +kernel
theorem dL_law_1049 : decode cL_law 1049 = .ok (.iload 4, 2) := by decide +kernel
theorem dL_law_1051 : decode cL_law 1051 = .ok (.iconst 2, 1) := by decide +kernel
theorem dL_law_1052 : decode cL_law 1052 = .ok (.iadd, 1) := by decide +kernel
theorem dL_law_1053 : decode cL_law 1053 = .ok (.iaload, 1) := by decide +kernel
theorem dL_law_1054 : decode cL_law 1054 = .ok (.aload_n 0, 1) := by decide +kernel
theorem dL_law_1055 : decode cL_law 1055 = .ok (.iload 4, 2) := by decide +kernel
theorem dL_law_1057 : decode cL_law 1057 = .ok (.iconst 3, 1) := by decide +kernel
theorem dL_law_1058 : decode cL_law 1058 = .ok (.iadd, 1) := by decide +kernel
theorem dL_law_1059 : decode cL_law 1059 = .ok (.iaload, 1) := by decide +kernel
theorem dL_law_1060 : decode cL_law 1060 = .ok (.invokestatic 149, 3) := by decide +kernel
theorem dL_law_1063 : decode cL_law 1063 = .ok (.istore 5, 2) := by decide +kernel
theorem dL_law_1065 : decode cL_law 1065 = .ok (.aload_n 2, 1) := by decide +kernel
theorem dL_law_1066 : decode cL_law 1066 = .ok (.aload_n 0, 1) := by decide +kernel
theorem dL_law_1067 : decode cL_law 1067 = .ok (.iload 4, 2) := by decide +kernel
theorem dL_law_1069 : decode cL_law 1069 = .ok (.iconst 1, 1) := by decide +kernel
theorem dL_law_1070 : decode cL_law 1070 = .ok (.iadd, 1) := by decide +kernel
theorem dL_law_1071 : decode cL_law 1071 = .ok (.iaload, 1) := by decide +kernel
theorem dL_law_1072 : decode cL_law 1072 = .ok (.aload_n 0, 1) := by decide +kernel
theorem dL_law_1073 : decode cL_law 1073 = .ok (.iload 4, 2) := by decide +kernel
theorem dL_law_1075 : decode cL_law 1075 = .ok (.iconst 2, 1) := by decide +kernel
theorem dL_law_1076 : decode cL_law 1076 = .ok (.iadd, 1) := by decide +kernel
theorem dL_law_1077 : decode cL_law 1077 = .ok (.iaload, 1) := by decide +kernel
theorem dL_law_1078 : decode cL_law 1078 = .ok (.aload_n 0, 1) := by decide +kernel
theorem dL_law_1079 : decode cL_law 1079 = .ok (.iload 4, 2) := by decide +kernel
theorem dL_law_1081 : decode cL_law 1081 = .ok (.iconst 3, 1) := by decide +kernel
theorem dL_law_1082 : decode cL_law 1082 = .ok (.iadd, 1) := by decide +kernel
theorem dL_law_1083 : decode cL_law 1083 = .ok (.iaload, 1) := by decide +kernel
theorem dL_law_1084 : decode cL_law 1084 = .ok (.invokevirtual 152, 3) := by decide +kernel
theorem dL_law_1087 : decode cL_law 1087 = .ok (.aload_n 2, 1) := by decide +kernel
theorem dL_law_1088 : decode cL_law 1088 = .ok (.invokevirtual 106, 3) := by decide +kernel
theorem dL_law_1091 : decode cL_law 1091 = .ok (.iload 5, 2) := by decide +kernel
theorem dL_law_1093 : decode cL_law 1093 = .ok (.if_icmp .eq 5, 3) := by decide +kernel
theorem dL_law_1096 : decode cL_law 1096 = .ok (.iconst 0, 1) := by decide +kernel
theorem dL_law_1097 : decode cL_law 1097 = .ok (.ireturn, 1) := by decide +kernel
theorem dL_law_1098 : decode cL_law 1098 = .ok (.goto 567, 3) := by decide +kernel
theorem dL_law_1101 : decode cL_law 1101 = .ok (.aload_n 1, 1) := by decide +kernel
theorem dL_law_1102 : decode cL_law 1102 = .ok (.aload_n 0, 1) := by decide +kernel
theorem dL_law_1103 : decode cL_law 1103 = .ok (.iload 4, 2) := by decide +kernel
theorem dL_law_1105 : decode cL_law 1105 = .ok (.iconst 1, 1) := by decide +kernel
theorem dL_law_1106 : decode cL_law 1106 = .ok (.iadd, 1) := by decide +kernel
theorem dL_law_1107 : decode cL_law 1107 = .ok (.iaload, 1) := by decide +kernel
theorem dL_law_1108 : decode cL_law 1108 = .ok (.aload_n 0, 1) := by decide +kernel
theorem dL_law_1109 : decode cL_law 1109 = .ok (.iload 4, 2) := by decide +kernel
theorem dL_law_1111 : decode cL_law 1111 = .ok (.iconst 2, 1) := by decide +kernel
theorem dL_law_1112 : decode cL_law 1112 = .ok (.iadd, 1) := by decide +kernel
theorem dL_law_1113 : decode cL_law 1113 = .ok (.iaload, 1) := by decide +kernel
theorem dL_law_1114 : decode cL_law 1114 = .ok (.aload_n 0, 1) := by decide +kernel
theorem dL_law_1115 : decode cL_law 1115 = .ok (.iload 4, 2) := by decide +kernel
theorem dL_law_1117 : decode cL_law 1117 = .ok (.iconst 3, 1) := by decide +kernel
theorem dL_law_1118 : decode cL_law 1118 = .ok (.iadd, 1) := by decide +kernel
theorem dL_law_1119 : decode cL_law 1119 = .ok (.iaload, 1) := by decide +kernel
theorem dL_law_1120 : decode cL_law 1120 = .ok (.aload_n 3, 1) := by decide +kernel
theorem dL_law_1121 : decode cL_law 1121 = .ok (.invokestatic 153, 3) := by decide +kernel
theorem dL_law_1124 : decode cL_law 1124 = .ok (.istore 5, 2) := by decide +kernel
theorem dL_law_1126 : decode cL_law 1126 = .ok (.aload_n 2, 1) := by decide +kernel
theorem dL_law_1127 : decode cL_law 1127 = .ok (.aload_n 0, 1) := by decide +kernel
theorem dL_law_1128 : decode cL_law 1128 = .ok (.iload 4, 2) := by decide +kernel
theorem dL_law_1130 : decode cL_law 1130 = .ok (.iconst 1, 1) := by decide +kernel
theorem dL_law_1131 : decode cL_law 1131 = .ok (.iadd, 1) := by decide +kernel
theorem dL_law_1132 : decode cL_law 1132 = .ok (.iaload, 1) := by decide +kernel
theorem dL_law_1133 : decode cL_law 1133 = .ok (.aload_n 0, 1) := by decide +kernel
theorem dL_law_1134 : decode cL_law 1134 = .ok (.iload 4, 2) := by decide +kernel
theorem dL_law_1136 : decode cL_law 1136 = .ok (.iconst 2, 1) := by decide +kernel
theorem dL_law_1137 : decode cL_law 1137 = .ok (.iadd, 1) := by decide +kernel
theorem dL_law_1138 : decode cL_law 1138 = .ok (.iaload, 1) := by decide +kernel
theorem dL_law_1139 : decode cL_law 1139 = .ok (.aload_n 0, 1) := by decide +kernel
theorem dL_law_1140 : decode cL_law 1140 = .ok (.iload 4, 2) := by decide +kernel
theorem dL_law_1142 : decode cL_law 1142 = .ok (.iconst 3, 1) := by decide +kernel
theorem dL_law_1143 : decode cL_law 1143 = .ok (.iadd, 1) := by decide +kernel
theorem dL_law_1144 : decode cL_law 1144 = .ok (.iaload, 1) := by decide +kernel
theorem dL_law_1145 : decode cL_law 1145 = .ok (.invokevirtual 155, 3) := by decide +kernel
theorem dL_law_1148 : decode cL_law 1148 = .ok (.istore 6, 2) := by decide +kernel
theorem dL_law_1150 : decode cL_law 1150 = .ok (.aload_n 2, 1) := by decide +kernel
theorem dL_law_1151 : decode cL_law 1151 = .ok (.invokevirtual 106, 3) := by decide +kernel
theorem dL_law_1154 : decode cL_law 1154 = .ok (.iload 5, 2) := by decide +kernel
theorem dL_law_1156 : decode cL_law 1156 = .ok (.if_icmp .eq 5, 3) := by decide +kernel
theorem dL_law_1159 : decode cL_law 1159 = .ok (.iconst 0, 1) := by decide +kernel
theorem dL_law_1160 : decode cL_law 1160 = .ok (.ireturn, 1) := by decide +kernel
theorem dL_law_1161 : decode cL_law 1161 = .ok (.iload 5, 2) := by decide +kernel
theorem dL_law_1163 : decode cL_law 1163 = .ok (.ifCond .ne 15, 3) := by decide +kernel
theorem dL_law_1166 : decode cL_law 1166 = .ok (.aload_n 3, 1) := by decide +kernel
theorem dL_law_1167 : decode cL_law 1167 = .ok (.iconst 0, 1) := by decide +kernel
theorem dL_law_1168 : decode cL_law 1168 = .ok (.laload, 1) := by decide +kernel
theorem dL_law_1169 : decode cL_law 1169 = .ok (.iload 6, 2) := by decide +kernel
theorem dL_law_1171 : decode cL_law 1171 = .ok (.i2l, 1) := by decide +kernel
theorem dL_law_1172 : decode cL_law 1172 = .ok (.lcmp, 1) := by decide +kernel
theorem dL_law_1173 : decode cL_law 1173 = .ok (.ifCond .eq 5, 3) := by decide +kernel
theorem dL_law_1176 : decode cL_law 1176 = .ok (.iconst 0, 1) := by decide +kernel
theorem dL_law_1177 : decode cL_law 1177 = .ok (.ireturn, 1) := by decide +kernel
theorem dL_law_1178 : decode cL_law 1178 = .ok (.goto 487, 3) := by decide +kernel
theorem dL_law_1181 : decode cL_law 1181 = .ok (.aload_n 1, 1) := by decide +kernel
theorem dL_law_1182 : decode cL_law 1182 = .ok (.aload_n 0, 1) := by decide +kernel
end
section
theorem dL_law_1183 : decode cL_law 1183 = .ok (.iload 4, 2) := by decide +kernel
theorem dL_law_1185 : decode cL_law 1185 = .ok (.iconst 1, 1) := by decide +kernel
theorem dL_law_1186 : decode cL_law 1186 = .ok (.iadd, 1) := by decide +kernel
theorem dL_law_1187 : decode cL_law 1187 = .ok (.iaload, 1) := by decide +kernel
theorem dL_law_1188 : decode cL_law 1188 = .ok (.aload_n 0, 1) := by decide +kernel
theorem dL_law_1189 : decode cL_law 1189 = .ok (.iload 4, 2) := by decide +kernel
theorem dL_law_1191 : decode cL_law 1191 = .ok (.iconst 2, 1) := by decide +kernel
theorem dL_law_1192 : decode cL_law 1192 = .ok (.iadd, 1) := by decide +kernel
theorem dL_law_1193 : decode cL_law 1193 = .ok (.iaload, 1) := by decide +kernel
theorem dL_law_1194 : decode cL_law 1194 = .ok (.invokestatic 156, 3) := by decide +kernel
theorem dL_law_1197 : decode cL_law 1197 = .ok (.istore 5, 2) := by decide +kernel
theorem dL_law_1199 : decode cL_law 1199 = .ok (.aload_n 2, 1) := by decide +kernel
theorem dL_law_1200 : decode cL_law 1200 = .ok (.aload_n 0, 1) := by decide +kernel
theorem dL_law_1201 : decode cL_law 1201 = .ok (.iload 4, 2) := by decide +kernel
theorem dL_law_1203 : decode cL_law 1203 = .ok (.iconst 1, 1) := by decide +kernel
theorem dL_law_1204 : decode cL_law 1204 = .ok (.iadd, 1) := by decide +kernel
theorem dL_law_1205 : decode cL_law 1205 = .ok (.iaload, 1) := by decide +kernel
theorem dL_law_1206 : decode cL_law 1206 = .ok (.aload_n 0, 1) := by decide +kernel
theorem dL_law_1207 : decode cL_law 1207 = .ok (.iload 4, 2) := by decide +kernel
theorem dL_law_1209 : decode cL_law 1209 = .ok (.iconst 2, 1) := by decide +kernel
theorem dL_law_1210 : decode cL_law 1210 = .ok (.iadd, 1) := by decide +kernel
theorem dL_law_1211 : decode cL_law 1211 = .ok (.iaload, 1) := by decide +kernel
theorem dL_law_1212 : decode cL_law 1212 = .ok (.invokevirtual 159, 3) := by decide +kernel
theorem dL_law_1215 : decode cL_law 1215 = .ok (.aload_n 2, 1) := by decide +kernel
theorem dL_law_1216 : decode cL_law 1216 = .ok (.invokevirtual 106, 3) := by decide +kernel
theorem dL_law_1219 : decode cL_law 1219 = .ok (.iload 5, 2) := by decide +kernel
theorem dL_law_1221 : decode cL_law 1221 = .ok (.if_icmp .eq 5, 3) := by decide +kernel
theorem dL_law_1224 : decode cL_law 1224 = .ok (.iconst 0, 1) := by decide +kernel
theorem dL_law_1225 : decode cL_law 1225 = .ok (.ireturn, 1) := by decide +kernel
theorem dL_law_1226 : decode cL_law 1226 = .ok (.goto 439, 3) := by decide +kernel
theorem dL_law_1229 : decode cL_law 1229 = .ok (.aload_n 1, 1) := by decide +kernel
theorem dL_law_1230 : decode cL_law 1230 = .ok (.aload_n 0, 1) := by decide +kernel
theorem dL_law_1231 : decode cL_law 1231 = .ok (.iload 4, 2) := by decide +kernel
theorem dL_law_1233 : decode cL_law 1233 = .ok (.iconst 1, 1) := by decide +kernel
theorem dL_law_1234 : decode cL_law 1234 = .ok (.iadd, 1) := by decide +kernel
theorem dL_law_1235 : decode cL_law 1235 = .ok (.iaload, 1) := by decide +kernel
theorem dL_law_1236 : decode cL_law 1236 = .ok (.aload_n 0, 1) := by decide +kernel
theorem dL_law_1237 : decode cL_law 1237 = .ok (.iload 4, 2) := by decide +kernel
theorem dL_law_1239 : decode cL_law 1239 = .ok (.iconst 2, 1) := by decide +kernel
theorem dL_law_1240 : decode cL_law 1240 = .ok (.iadd, 1) := by decide +kernel
theorem dL_law_1241 : decode cL_law 1241 = .ok (.iaload, 1) := by decide +kernel
theorem dL_law_1242 : decode cL_law 1242 = .ok (.aload_n 3, 1) := by decide +kernel
theorem dL_law_1243 : decode cL_law 1243 = .ok (.invokestatic 160, 3) := by decide +kernel
theorem dL_law_1246 : decode cL_law 1246 = .ok (.istore 5, 2) := by decide +kernel
theorem dL_law_1248 : decode cL_law 1248 = .ok (.aload_n 2, 1) := by decide +kernel
theorem dL_law_1249 : decode cL_law 1249 = .ok (.aload_n 0, 1) := by decide +kernel
theorem dL_law_1250 : decode cL_law 1250 = .ok (.iload 4, 2) := by decide +kernel
theorem dL_law_1252 : decode cL_law 1252 = .ok (.iconst 1, 1) := by decide +kernel
theorem dL_law_1253 : decode cL_law 1253 = .ok (.iadd, 1) := by decide +kernel
theorem dL_law_1254 : decode cL_law 1254 = .ok (.iaload, 1) := by decide +kernel
theorem dL_law_1255 : decode cL_law 1255 = .ok (.aload_n 0, 1) := by decide +kernel
theorem dL_law_1256 : decode cL_law 1256 = .ok (.iload 4, 2) := by decide +kernel
theorem dL_law_1258 : decode cL_law 1258 = .ok (.iconst 2, 1) := by decide +kernel
theorem dL_law_1259 : decode cL_law 1259 = .ok (.iadd, 1) := by decide +kernel
theorem dL_law_1260 : decode cL_law 1260 = .ok (.iaload, 1) := by decide +kernel
theorem dL_law_1261 : decode cL_law 1261 = .ok (.invokevirtual 162, 3) := by decide +kernel
theorem dL_law_1264 : decode cL_law 1264 = .ok (.istore 6, 2) := by decide +kernel
theorem dL_law_1266 : decode cL_law 1266 = .ok (.aload_n 2, 1) := by decide +kernel
theorem dL_law_1267 : decode cL_law 1267 = .ok (.invokevirtual 106, 3) := by decide +kernel
theorem dL_law_1270 : decode cL_law 1270 = .ok (.iload 5, 2) := by decide +kernel
theorem dL_law_1272 : decode cL_law 1272 = .ok (.if_icmp .eq 5, 3) := by decide +kernel
theorem dL_law_1275 : decode cL_law 1275 = .ok (.iconst 0, 1) := by decide +kernel
theorem dL_law_1276 : decode cL_law 1276 = .ok (.ireturn, 1) := by decide +kernel
theorem dL_law_1277 : decode cL_law 1277 = .ok (.iload 5, 2) := by decide +kernel
theorem dL_law_1279 : decode cL_law 1279 = .ok (.ifCond .ne 22, 3) := by decide +kernel
theorem dL_law_1282 : decode cL_law 1282 = .ok (.aload_n 3, 1) := by decide +kernel
theorem dL_law_1283 : decode cL_law 1283 = .ok (.iconst 0, 1) := by decide +kernel
theorem dL_law_1284 : decode cL_law 1284 = .ok (.laload, 1) := by decide +kernel
theorem dL_law_1285 : decode cL_law 1285 = .ok (.iload 6, 2) := by decide +kernel
theorem dL_law_1287 : decode cL_law 1287 = .ok (.ifCond .eq 7, 3) := by decide +kernel
theorem dL_law_1290 : decode cL_law 1290 = .ok (.lconst 1, 1) := by decide +kernel
theorem dL_law_1291 : decode cL_law 1291 = .ok (.goto 4, 3) := by decide +kernel
theorem dL_law_1294 : decode cL_law 1294 = .ok (.lconst 0, 1) := by decide +kernel
theorem dL_law_1295 : decode cL_law 1295 = .ok (.lcmp, 1) := by decide +kernel
theorem dL_law_1296 : decode cL_law 1296 = .ok (.ifCond .eq 5, 3) := by decide +kernel
theorem dL_law_1299 : decode cL_law 1299 = .ok (.iconst 0, 1) := by decide +kernel
theorem dL_law_1300 : decode cL_law 1300 = .ok (.ireturn, 1) := by decide +kernel
theorem dL_law_1301 : decode cL_law 1301 = .ok (.goto 364, 3) := by decide +kernel
theorem dL_law_1304 : decode cL_law 1304 = .ok (.aload_n 1, 1) := by decide +kernel
theorem dL_law_1305 : decode cL_law 1305 = .ok (.aload_n 0, 1) := by decide +kernel
theorem dL_law_1306 : decode cL_law 1306 = .ok (.iload 4, 2) := by decide +kernel
theorem dL_law_1308 : decode cL_law 1308 = .ok (.iconst 1, 1) := by decide +kernel
theorem dL_law_1309 : decode cL_law 1309 = .ok (.iadd, 1) := by decide +kernel
theorem dL_law_1310 : decode cL_law 1310 = .ok (.iaload, 1) := by decide +kernel
theorem dL_law_1311 : decode cL_law 1311 = .ok (.aload_n 0, 1) := by decide +kernel
theorem dL_law_1312 : decode cL_law 1312 = .ok (.iload 4, 2) := by decide +kernel
theorem dL_law_1314 : decode cL_law 1314 = .ok (.iconst 2, 1) := by decide +kernel
theorem dL_law_1315 : decode cL_law 1315 = .ok (.iadd, 1) := by decide +kernel
theorem dL_law_1316 : decode cL_law 1316 = .ok (.iaload, 1) := by decide +kernel
theorem dL_law_1317 : decode cL_law 1317 = .ok (.i2l, 1) := by decide +kernel
theorem dL_law_1318 : decode cL_law 1318 = .ok (.bipush 32, 2) := by decide +kernel
theorem dL_law_1320 : decode cL_law 1320 = .ok (.lshl, 1) := by decide +kernel
theorem dL_law_1321 : decode cL_law 1321 = .ok (.aload_n 0, 1) := by decide +kernel
theorem dL_law_1322 : decode cL_law 1322 = .ok (.iload 4, 2) := by decide +kernel
theorem dL_law_1324 : decode cL_law 1324 = .ok (.iconst 3, 1) := by decide +kernel
theorem dL_law_1325 : decode cL_law 1325 = .ok (.iadd, 1) := by decide +kernel
theorem dL_law_1326 : decode cL_law 1326 = .ok (.iaload, 1) := by decide +kernel
theorem dL_law_1327 : decode cL_law 1327 = .ok (.i2l, 1) := by decide +kernel
theorem dL_law_1328 : decode cL_law 1328 = .ok (.ldc2_w 136, 3) := by decide +kernel
theorem dL_law_1331 : decode cL_law 1331 = .ok (.land, 1) := by decide +kernel
theorem dL_law_1332 : decode cL_law 1332 = .ok (.lor, 1) := by decide +kernel
theorem dL_law_1333 : decode cL_law 1333 = .ok (.aload_n 3, 1) := by decide +kernel
theorem dL_law_1334 : decode cL_law 1334 = .ok (.invokestatic 163, 3) := by decide +kernel
theorem dL_law_1337 : decode cL_law 1337 = .ok (.istore 5, 2) := by decide +kernel
theorem dL_law_1339 : decode cL_law 1339 = .ok (.aload_n 2, 1) := by decide +kernel
theorem dL_law_1340 : decode cL_law 1340 = .ok (.aload_n 0, 1) := by decide +kernel
theorem dL_law_1341 : decode cL_law 1341 = .ok (.iload 4, 2) := by decide +kernel
theorem dL_law_1343 : decode cL_law 1343 = .ok (.iconst 1, 1) := by decide +kernel
theorem dL_law_1344 : decode cL_law 1344 = .ok (.iadd, 1) := by decide +kernel
theorem dL_law_1345 : decode cL_law 1345 = .ok (.iaload, 1) := by decide +kernel
theorem dL_law_1346 : decode cL_law 1346 = .ok (.aload_n 0, 1) := by decide +kernel
theorem dL_law_1347 : decode cL_law 1347 = .ok (.iload 4, 2) := by decide +kernel
theorem dL_law_1349 : decode cL_law 1349 = .ok (.iconst 2, 1) := by decide +kernel
theorem dL_law_1350 : decode cL_law 1350 = .ok (.iadd, 1) := by decide +kernel
theorem dL_law_1351 : decode cL_law 1351 = .ok (.iaload, 1) := by decide +kernel
theorem dL_law_1352 : decode cL_law 1352 = .ok (.i2l, 1) := by decide +kernel
theorem dL_law_1353 : decode cL_law 1353 = .ok (.bipush 32, 2) := by decide +kernel
theorem dL_law_1355 : decode cL_law 1355 = .ok (.lshl, 1) := by decide +kernel
theorem dL_law_1356 : decode cL_law 1356 = .ok (.aload_n 0, 1) := by decide +kernel
theorem dL_law_1357 : decode cL_law 1357 = .ok (.iload 4, 2) := by decide +kernel
theorem dL_law_1359 : decode cL_law 1359 = .ok (.iconst 3, 1) := by decide +kernel
theorem dL_law_1360 : decode cL_law 1360 = .ok (.iadd, 1) := by decide +kernel
theorem dL_law_1361 : decode cL_law 1361 = .ok (.iaload, 1) := by decide +kernel
theorem dL_law_1362 : decode cL_law 1362 = .ok (.i2l, 1) := by decide +kernel
theorem dL_law_1363 : decode cL_law 1363 = .ok (.ldc2_w 136, 3) := by decide +kernel
theorem dL_law_1366 : decode cL_law 1366 = .ok (.land, 1) := by decide +kernel
theorem dL_law_1367 : decode cL_law 1367 = .ok (.lor, 1) := by decide +kernel
theorem dL_law_1368 : decode cL_law 1368 = .ok (.invokevirtual 166, 3) := by decide +kernel
theorem dL_law_1371 : decode cL_law 1371 = .ok (.lstore 6, 2) := by decide +kernel
theorem dL_law_1373 : decode cL_law 1373 = .ok (.aload_n 2, 1) := by decide +kernel
theorem dL_law_1374 : decode cL_law 1374 = .ok (.invokevirtual 106, 3) := by decide +kernel
theorem dL_law_1377 : decode cL_law 1377 = .ok (.iload 5, 2) := by decide +kernel
theorem dL_law_1379 : decode cL_law 1379 = .ok (.if_icmp .eq 5, 3) := by decide +kernel
theorem dL_law_1382 : decode cL_law 1382 = .ok (.iconst 0, 1) := by decide +kernel
theorem dL_law_1383 : decode cL_law 1383 = .ok (.ireturn, 1) := by decide +kernel
theorem dL_law_1384 : decode cL_law 1384 = .ok (.iload 5, 2) := by decide +kernel
theorem dL_law_1386 : decode cL_law 1386 = .ok (.ifCond .ne 14, 3) := by decide +kernel
theorem dL_law_1389 : decode cL_law 1389 = .ok (.aload_n 3, 1) := by decide +kernel
theorem dL_law_1390 : decode cL_law 1390 = .ok (.iconst 0, 1) := by decide +kernel
theorem dL_law_1391 : decode cL_law 1391 = .ok (.laload, 1) := by decide +kernel
theorem dL_law_1392 : decode cL_law 1392 = .ok (.lload 6, 2) := by decide +kernel
theorem dL_law_1394 : decode cL_law 1394 = .ok (.lcmp, 1) := by decide +kernel
theorem dL_law_1395 : decode cL_law 1395 = .ok (.ifCond .eq 5, 3) := by decide +kernel
theorem dL_law_1398 : decode cL_law 1398 = .ok (.iconst 0, 1) := by decide +kernel
theorem dL_law_1399 : decode cL_law 1399 = .ok (.ireturn, 1) := by decide +kernel
theorem dL_law_1400 : decode cL_law 1400 = .ok (.goto 265, 3) := by decide +kernel
theorem dL_law_1403 : decode cL_law 1403 = .ok (.aload_n 1, 1) := by decide +kernel
theorem dL_law_1404 : decode cL_law 1404 = .ok (.aload_n 0, 1) := by decide +kernel
theorem dL_law_1405 : decode cL_law 1405 = .ok (.iload 4, 2) := by decide +kernel
theorem dL_law_1407 : decode cL_law 1407 = .ok (.iconst 1, 1) := by decide +kernel
theorem dL_law_1408 : decode cL_law 1408 = .ok (.iadd, 1) := by decide +kernel
theorem dL_law_1409 : decode cL_law 1409 = .ok (.iaload, 1) := by decide +kernel
theorem dL_law_1410 : decode cL_law 1410 = .ok (.aload_n 3, 1) := by decide +kernel
theorem dL_law_1411 : decode cL_law 1411 = .ok (.invokestatic 167, 3) := by decide +kernel
theorem dL_law_1414 : decode cL_law 1414 = .ok (.istore 5, 2) := by decide +kernel
theorem dL_law_1416 : decode cL_law 1416 = .ok (.aload_n 2, 1) := by decide +kernel
theorem dL_law_1417 : decode cL_law 1417 = .ok (.aload_n 0, 1) := by decide +kernel
theorem dL_law_1418 : decode cL_law 1418 = .ok (.iload 4, 2) := by decide +kernel
theorem dL_law_1420 : decode cL_law 1420 = .ok (.iconst 1, 1) := by decide +kernel
theorem dL_law_1421 : decode cL_law 1421 = .ok (.iadd, 1) := by decide +kernel
theorem dL_law_1422 : decode cL_law 1422 = .ok (.iaload, 1) := by decide +kernel
theorem dL_law_1423 : decode cL_law 1423 = .ok (.invokevirtual 169, 3) := by decide +kernel
theorem dL_law_1426 : decode cL_law 1426 = .ok (.lstore 6, 2) := by decide +kernel
theorem dL_law_1428 : decode cL_law 1428 = .ok (.aload_n 2, 1) := by decide +kernel
theorem dL_law_1429 : decode cL_law 1429 = .ok (.invokevirtual 106, 3) := by decide +kernel
theorem dL_law_1432 : decode cL_law 1432 = .ok (.iload 5, 2) := by decide +kernel
theorem dL_law_1434 : decode cL_law 1434 = .ok (.if_icmp .eq 5, 3) := by decide +kernel
theorem dL_law_1437 : decode cL_law 1437 = .ok (.iconst 0, 1) := by decide +kernel
theorem dL_law_1438 : decode cL_law 1438 = .ok (.ireturn, 1) := by decide +kernel
theorem dL_law_1439 : decode cL_law 1439 = .ok (.iload 5, 2) := by decide +kernel
theorem dL_law_1441 : decode cL_law 1441 = .ok (.ifCond .ne 14, 3) := by decide +kernel
theorem dL_law_1444 : decode cL_law 1444 = .ok (.aload_n 3, 1) := by decide +kernel
theorem dL_law_1445 : decode cL_law 1445 = .ok (.iconst 0, 1) := by decide +kernel
theorem dL_law_1446 : decode cL_law 1446 = .ok (.laload, 1) := by decide +kernel
theorem dL_law_1447 : decode cL_law 1447 = .ok (.lload 6, 2) := by decide +kernel
theorem dL_law_1449 : decode cL_law 1449 = .ok (.lcmp, 1) := by decide +kernel
theorem dL_law_1450 : decode cL_law 1450 = .ok (.ifCond .eq 5, 3) := by decide +kernel
theorem dL_law_1453 : decode cL_law 1453 = .ok (.iconst 0, 1) := by decide +kernel
theorem dL_law_1454 : decode cL_law 1454 = .ok (.ireturn, 1) := by decide +kernel
theorem dL_law_1455 : decode cL_law 1455 = .ok (.goto 210, 3) := by decide +kernel
theorem dL_law_1458 : decode cL_law 1458 = .ok (.aload_n 1, 1) := by decide +kernel
theorem dL_law_1459 : decode cL_law 1459 = .ok (.aload_n 0, 1) := by decide +kernel
theorem dL_law_1460 : decode cL_law 1460 = .ok (.iload 4, 2) := by decide +kernel
theorem dL_law_1462 : decode cL_law 1462 = .ok (.iconst 1, 1) := by decide +kernel
theorem dL_law_1463 : decode cL_law 1463 = .ok (.iadd, 1) := by decide +kernel
theorem dL_law_1464 : decode cL_law 1464 = .ok (.iaload, 1) := by decide +kernel
theorem dL_law_1465 : decode cL_law 1465 = .ok (.aload_n 0, 1) := by decide +kernel
theorem dL_law_1466 : decode cL_law 1466 = .ok (.iload 4, 2) := by decide +kernel
theorem dL_law_1468 : decode cL_law 1468 = .ok (.iconst 2, 1) := by decide +kernel
theorem dL_law_1469 : decode cL_law 1469 = .ok (.iadd, 1) := by decide +kernel
theorem dL_law_1470 : decode cL_law 1470 = .ok (.iaload, 1) := by decide +kernel
theorem dL_law_1471 : decode cL_law 1471 = .ok (.aload_n 0, 1) := by decide +kernel
theorem dL_law_1472 : decode cL_law 1472 = .ok (.iload 4, 2) := by decide +kernel
theorem dL_law_1474 : decode cL_law 1474 = .ok (.iconst 3, 1) := by decide +kernel
theorem dL_law_1475 : decode cL_law 1475 = .ok (.iadd, 1) := by decide +kernel
theorem dL_law_1476 : decode cL_law 1476 = .ok (.iaload, 1) := by decide +kernel
theorem dL_law_1477 : decode cL_law 1477 = .ok (.aload_n 0, 1) := by decide +kernel
theorem dL_law_1478 : decode cL_law 1478 = .ok (.iload 4, 2) := by decide +kernel
theorem dL_law_1480 : decode cL_law 1480 = .ok (.iconst 4, 1) := by decide +kernel
theorem dL_law_1481 : decode cL_law 1481 = .ok (.iadd, 1) := by decide +kernel
theorem dL_law_1482 : decode cL_law 1482 = .ok (.iaload, 1) := by decide +kernel
theorem dL_law_1483 : decode cL_law 1483 = .ok (.aload_n 0, 1) := by decide +kernel
theorem dL_law_1484 : decode cL_law 1484 = .ok (.iload 4, 2) := by decide +kernel
theorem dL_law_1486 : decode cL_law 1486 = .ok (.iconst 5, 1) := by decide +kernel
theorem dL_law_1487 : decode cL_law 1487 = .ok (.iadd, 1) := by decide +kernel
theorem dL_law_1488 : decode cL_law 1488 = .ok (.iaload, 1) := by decide +kernel
theorem dL_law_1489 : decode cL_law 1489 = .ok (.aload_n 3, 1) := by decide +kernel
theorem dL_law_1490 : decode cL_law 1490 = .ok (.invokestatic 170, 3) := by decide +kernel
theorem dL_law_1493 : decode cL_law 1493 = .ok (.istore 5, 2) := by decide +kernel
theorem dL_law_1495 : decode cL_law 1495 = .ok (.aload_n 2, 1) := by decide +kernel
theorem dL_law_1496 : decode cL_law 1496 = .ok (.aload_n 0, 1) := by decide +kernel
theorem dL_law_1497 : decode cL_law 1497 = .ok (.iload 4, 2) := by decide +kernel
theorem dL_law_1499 : decode cL_law 1499 = .ok (.iconst 1, 1) := by decide +kernel
theorem dL_law_1500 : decode cL_law 1500 = .ok (.iadd, 1) := by decide +kernel
theorem dL_law_1501 : decode cL_law 1501 = .ok (.iaload, 1) := by decide +kernel
theorem dL_law_1502 : decode cL_law 1502 = .ok (.aload_n 0, 1) := by decide +kernel
theorem dL_law_1503 : decode cL_law 1503 = .ok (.iload 4, 2) := by decide +kernel
theorem dL_law_1505 : decode cL_law 1505 = .ok (.iconst 2, 1) := by decide +kernel
theorem dL_law_1506 : decode cL_law 1506 = .ok (.iadd, 1) := by decide +kernel
theorem dL_law_1507 : decode cL_law 1507 = .ok (.iaload, 1) := by decide +kernel
theorem dL_law_1508 : decode cL_law 1508 = .ok (.aload_n 0, 1) := by decide +kernel
theorem dL_law_1509 : decode cL_law 1509 = .ok (.iload 4, 2) := by decide +kernel
theorem dL_law_1511 : decode cL_law 1511 = .ok (.iconst 3, 1) := by decide +kernel
theorem dL_law_1512 : decode cL_law 1512 = .ok (.iadd, 1) := by decide +kernel
theorem dL_law_1513 : decode cL_law 1513 = .ok (.iaload, 1) := by decide +kernel
theorem dL_law_1514 : decode cL_law 1514 = .ok (.aload_n 0, 1) := by decide +kernel
theorem dL_law_1515 : decode cL_law 1515 = .ok (.iload 4, 2) := by decide +kernel
theorem dL_law_1517 : decode cL_law 1517 = .ok (.iconst 4, 1) := by decide +kernel
theorem dL_law_1518 : decode cL_law 1518 = .ok (.iadd, 1) := by decide +kernel
theorem dL_law_1519 : decode cL_law 1519 = .ok (.iaload, 1) := by decide +kernel
theorem dL_law_1520 : decode cL_law 1520 = .ok (.aload_n 0, 1) := by decide +kernel
theorem dL_law_1521 : decode cL_law 1521 = .ok (.iload 4, 2) := by decide +kernel
theorem dL_law_1523 : decode cL_law 1523 = .ok (.iconst 5, 1) := by decide +kernel
theorem dL_law_1524 : decode cL_law 1524 = .ok (.iadd, 1) := by decide +kernel
theorem dL_law_1525 : decode cL_law 1525 = .ok (.iaload, 1) := by decide +kernel
theorem dL_law_1526 : decode cL_law 1526 = .ok (.invokevirtual 173, 3) := by decide +kernel
theorem dL_law_1529 : decode cL_law 1529 = .ok (.lstore 6, 2) := by decide +kernel
theorem dL_law_1531 : decode cL_law 1531 = .ok (.aload_n 2, 1) := by decide +kernel
theorem dL_law_1532 : decode cL_law 1532 = .ok (.invokevirtual 106, 3) := by decide +kernel
theorem dL_law_1535 : decode cL_law 1535 = .ok (.iload 5, 2) := by decide +kernel
theorem dL_law_1537 : decode cL_law 1537 = .ok (.if_icmp .eq 5, 3) := by decide +kernel
theorem dL_law_1540 : decode cL_law 1540 = .ok (.iconst 0, 1) := by decide +kernel
theorem dL_law_1541 : decode cL_law 1541 = .ok (.ireturn, 1) := by decide +kernel
theorem dL_law_1542 : decode cL_law 1542 = .ok (.iload 5, 2) := by decide +kernel
theorem dL_law_1544 : decode cL_law 1544 = .ok (.ifCond .ne 14, 3) := by decide +kernel
theorem dL_law_1547 : decode cL_law 1547 = .ok (.aload_n 3, 1) := by decide +kernel
theorem dL_law_1548 : decode cL_law 1548 = .ok (.iconst 0, 1) := by decide +kernel
theorem dL_law_1549 : decode cL_law 1549 = .ok (.laload, 1) := by decide +kernel
theorem dL_law_1550 : decode cL_law 1550 = .ok (.lload 6, 2) := by decide +kernel
theorem dL_law_1552 : decode cL_law 1552 = .ok (.lcmp, 1) := by decide +kernel
theorem dL_law_1553 : decode cL_law 1553 = .ok (.ifCond .eq 5, 3) := by decide +kernel
theorem dL_law_1556 : decode cL_law 1556 = .ok (.iconst 0, 1) := by decide +kernel
theorem dL_law_1557 : decode cL_law 1557 = .ok (.ireturn, 1) := by decide +kernel
theorem dL_law_1558 : decode cL_law 1558 = .ok (.goto 107, 3) := by decide +kernel
theorem dL_law_1561 : decode cL_law 1561 = .ok (.aload_n 1, 1) := by decide +kernel
theorem dL_law_1562 : decode cL_law 1562 = .ok (.aload_n 0, 1) := by decide +kernel
theorem dL_law_1563 : decode cL_law 1563 = .ok (.iload 4, 2) := by decide +kernel
theorem dL_law_1565 : decode cL_law 1565 = .ok (.iconst 1, 1) := by decide +kernel
theorem dL_law_1566 : decode cL_law 1566 = .ok (.iadd, 1) := by decide +kernel
theorem dL_law_1567 : decode cL_law 1567 = .ok (.iaload, 1) := by decide +kernel
theorem dL_law_1568 : decode cL_law 1568 = .ok (.aload_n 0, 1) := by decide +kernel
theorem dL_law_1569 : decode cL_law 1569 = .ok (.iload 4, 2) := by decide +kernel
theorem dL_law_1571 : decode cL_law 1571 = .ok (.iconst 2, 1) := by decide +kernel
theorem dL_law_1572 : decode cL_law 1572 = .ok (.iadd, 1) := by decide +kernel
theorem dL_law_1573 : decode cL_law 1573 = .ok (.iaload, 1) := by decide +kernel
theorem dL_law_1574 : decode cL_law 1574 = .ok (.aload_n 0, 1) := by decide +kernel
theorem dL_law_1575 : decode cL_law 1575 = .ok (.iload 4, 2) := by decide +kernel
theorem dL_law_1577 : decode cL_law 1577 = .ok (.iconst 3, 1) := by decide +kernel
theorem dL_law_1578 : decode cL_law 1578 = .ok (.iadd, 1) := by decide +kernel
theorem dL_law_1579 : decode cL_law 1579 = .ok (.iaload, 1) := by decide +kernel
theorem dL_law_1580 : decode cL_law 1580 = .ok (.aload_n 0, 1) := by decide +kernel
theorem dL_law_1581 : decode cL_law 1581 = .ok (.iload 4, 2) := by decide +kernel
theorem dL_law_1583 : decode cL_law 1583 = .ok (.iconst 4, 1) := by decide +kernel
theorem dL_law_1584 : decode cL_law 1584 = .ok (.iadd, 1) := by decide +kernel
theorem dL_law_1585 : decode cL_law 1585 = .ok (.iaload, 1) := by decide +kernel
theorem dL_law_1586 : decode cL_law 1586 = .ok (.aload_n 0, 1) := by decide +kernel
theorem dL_law_1587 : decode cL_law 1587 = .ok (.iload 4, 2) := by decide +kernel
theorem dL_law_1589 : decode cL_law 1589 = .ok (.iconst 5, 1) := by decide +kernel
theorem dL_law_1590 : decode cL_law 1590 = .ok (.iadd, 1) := by decide +kernel
theorem dL_law_1591 : decode cL_law 1591 = .ok (.iaload, 1) := by decide +kernel
theorem dL_law_1592 : decode cL_law 1592 = .ok (.aload_n 3, 1) := by decide +kernel
theorem dL_law_1593 : decode cL_law 1593 = .ok (.invokestatic 174, 3) := by decide +kernel
theorem dL_law_1596 : decode cL_law 1596 = .ok (.istore 5, 2) := by decide +kernel
theorem dL_law_1598 : decode cL_law 1598 = .ok (.aload_n 2, 1) := by decide +kernel
theorem dL_law_1599 : decode cL_law 1599 = .ok (.aload_n 0, 1) := by decide +kernel
theorem dL_law_1600 : decode cL_law 1600 = .ok (.iload 4, 2) := by decide +kernel
theorem dL_law_1602 : decode cL_law 1602 = .ok (.iconst 1, 1) := by decide +kernel
theorem dL_law_1603 : decode cL_law 1603 = .ok (.iadd, 1) := by decide +kernel
theorem dL_law_1604 : decode cL_law 1604 = .ok (.iaload, 1) := by decide +kernel
theorem dL_law_1605 : decode cL_law 1605 = .ok (.aload_n 0, 1) := by decide +kernel
theorem dL_law_1606 : decode cL_law 1606 = .ok (.iload 4, 2) := by decide +kernel
theorem dL_law_1608 : decode cL_law 1608 = .ok (.iconst 2, 1) := by decide +kernel
theorem dL_law_1609 : decode cL_law 1609 = .ok (.iadd, 1) := by decide +kernel
theorem dL_law_1610 : decode cL_law 1610 = .ok (.iaload, 1) := by decide +kernel
theorem dL_law_1611 : decode cL_law 1611 = .ok (.aload_n 0, 1) := by decide +kernel
theorem dL_law_1612 : decode cL_law 1612 = .ok (.iload 4, 2) := by decide +kernel
theorem dL_law_1614 : decode cL_law 1614 = .ok (.iconst 3, 1) := by decide +kernel
theorem dL_law_1615 : decode cL_law 1615 = .ok (.iadd, 1) := by decide +kernel
theorem dL_law_1616 : decode cL_law 1616 = .ok (.iaload, 1) := by decide +kernel
theorem dL_law_1617 : decode cL_law 1617 = .ok (.aload_n 0, 1) := by decide +kernel
theorem dL_law_1618 : decode cL_law 1618 = .ok (.iload 4, 2) := by decide +kernel
theorem dL_law_1620 : decode cL_law 1620 = .ok (.iconst 4, 1) := by decide +kernel
theorem dL_law_1621 : decode cL_law 1621 = .ok (.iadd, 1) := by decide +kernel
theorem dL_law_1622 : decode cL_law 1622 = .ok (.iaload, 1) := by decide +kernel
theorem dL_law_1623 : decode cL_law 1623 = .ok (.aload_n 0, 1) := by decide +kernel
theorem dL_law_1624 : decode cL_law 1624 = .ok (.iload 4, 2) := by decide +kernel
theorem dL_law_1626 : decode cL_law 1626 = .ok (.iconst 5, 1) := by decide +kernel
theorem dL_law_1627 : decode cL_law 1627 = .ok (.iadd, 1) := by decide +kernel
theorem dL_law_1628 : decode cL_law 1628 = .ok (.iaload, 1) := by decide +kernel
theorem dL_law_1629 : decode cL_law 1629 = .ok (.invokevirtual 176, 3) := by decide +kernel
theorem dL_law_1632 : decode cL_law 1632 = .ok (.istore 6, 2) := by decide +kernel
theorem dL_law_1634 : decode cL_law 1634 = .ok (.aload_n 2, 1) := by decide +kernel
theorem dL_law_1635 : decode cL_law 1635 = .ok (.invokevirtual 106, 3) := by decide +kernel
theorem dL_law_1638 : decode cL_law 1638 = .ok (.iload 5, 2) := by decide +kernel
theorem dL_law_1640 : decode cL_law 1640 = .ok (.if_icmp .eq 5, 3) := by decide +kernel
theorem dL_law_1643 : decode cL_law 1643 = .ok (.iconst 0, 1) := by decide +kernel
theorem dL_law_1644 : decode cL_law 1644 = .ok (.ireturn, 1) := by decide +kernel
theorem dL_law_1645 : decode cL_law 1645 = .ok (.iload 5, 2) := by decide +kernel
theorem dL_law_1647 : decode cL_law 1647 = .ok (.ifCond .ne 15, 3) := by decide +kernel
theorem dL_law_1650 : decode cL_law 1650 = .ok (.aload_n 3, 1) := by decide +kernel
theorem dL_law_1651 : decode cL_law 1651 = .ok (.iconst 0, 1) := by decide +kernel
theorem dL_law_1652 : decode cL_law 1652 = .ok (.laload, 1) := by decide +kernel
theorem dL_law_1653 : decode cL_law 1653 = .ok (.iload 6, 2) := by decide +kernel
theorem dL_law_1655 : decode cL_law 1655 = .ok (.i2l, 1) := by decide +kernel
theorem dL_law_1656 : decode cL_law 1656 = .ok (.lcmp, 1) := by decide +kernel
theorem dL_law_1657 : decode cL_law 1657 = .ok (.ifCond .eq 5, 3) := by decide +kernel
theorem dL_law_1660 : decode cL_law 1660 = .ok (.iconst 0, 1) := by decide +kernel
theorem dL_law_1661 : decode cL_law 1661 = .ok (.ireturn, 1) := by decide +kernel
theorem dL_law_1662 : decode cL_law 1662 = .ok (.goto 3, 3) := by decide +kernel
theorem dL_law_1665 : decode cL_law 1665 = .ok (.iinc 4 6, 3) := by decide +kernel
theorem dL_law_1668 : decode cL_law 1668 = .ok (.goto (-1645), 3) := by decide +kernel
theorem dL_law_1671 : decode cL_law 1671 = .ok (.iconst 1, 1) := by decide +kernel
theorem dL_law_1672 : decode cL_law 1672 = .ok (.ireturn, 1) := by decide +kernel
end
section
/-! ===== straight instructions and branches ===== -/
section ACA
variable {M : ac_D} {scr : Nat → Nat → (Nat → Int32) → Prop} {pc nx tg : Nat}
theorem so_iconst {i : Int} {v : Int32} (hd : decode M.2.2.1 pc = .ok (.iconst i, 1)) (hv : Int32.ofInt i = v) (hn : pc + 1 = nx) : ac_So M scr pc (op_push (.int v) nx) := by
  subst hn
  intro p l e s m args below meth c base D A Q G lv st ah k n h H locs ls hR hS hL
  obtain ⟨-, hx, hb, -⟩ := G
  exact lv_iconst hx hb hd hv (h H locs ls hR hS hL)
theorem so_bipush {i : Int} {v : Int32} (hd : decode M.2.2.1 pc = .ok (.bipush i, 2)) (hv : (Int8.ofInt i).toInt32 = v) (hn : pc + 2 = nx) : ac_So M scr pc (op_push (.int v) nx) := by
  subst hn
  intro p l e s m args below meth c base D A Q G lv st ah k n h H locs ls hR hS hL
  obtain ⟨-, hx, hb, -⟩ := G
  exact lv_bipush hx hb hd hv (h H locs ls hR hS hL)
theorem so_sipush {i : Int} {v : Int32} (hd : decode M.2.2.1 pc = .ok (.sipush i, 3)) (hv : (Int16.ofInt i).toInt32 = v) (hn : pc + 3 = nx) : ac_So M scr pc (op_push (.int v) nx) := by
  subst hn
  intro p l e s m args below meth c base D A Q G lv st ah k n h H locs ls hR hS hL
  obtain ⟨-, hx, hb, -⟩ := G
  exact lv_sipush hx hb hd hv (h H locs ls hR hS hL)
theorem so_lconst {i : Fin 2} {v : Int64} (hd : decode M.2.2.1 pc = .ok (.lconst i, 1)) (hv : Int64.ofNat (i : Nat) = v) (hn : pc + 1 = nx) : ac_So M scr pc (op_push (.long v) nx) := by
  subst hn
  intro p l e s m args below meth c base D A Q G lv st ah k n h H locs ls hR hS hL
  obtain ⟨-, hx, hb, -⟩ := G
  exact lv_lconst hx hb hd hv (h H locs ls hR hS hL)
theorem so_null (hd : decode M.2.2.1 pc = .ok (.aconst_null, 1)) (hn : pc + 1 = nx) : ac_So M scr pc (op_push .null nx) := by
  subst hn
  intro p l e s m args below meth c base D A Q G lv st ah k n h H locs ls hR hS hL
  obtain ⟨-, hx, hb, -⟩ := G
  exact lv_null hx hb hd (h H locs ls hR hS hL)
theorem so_ldc2 {i : Nat} {v : Int64} (hd : decode M.2.2.1 pc = .ok (.ldc2_w i, 3)) (hw : Cond.constantLong M.1 i v ∈ ac_gw) (hn : pc + 3 = nx) : ac_So M scr pc (op_push (.long v) nx) := by
  subst hn
  intro p l e s m args below meth c base D A Q G lv st ah k n h H locs ls hR hS hL
  obtain ⟨-, hx, hb, -, -, hown, hts, -⟩ := G
  exact lv_ldc2 hx hb hown (hts _ hw) hd (h H locs ls hR hS hL)
theorem so_iload {i : Nat} (hd : decode M.2.2.1 pc = .ok (.iload i, 2)) (hn : pc + 2 = nx) : ac_So M scr pc (op_iload i nx) := by
  subst hn
  intro p l e s m args below meth c base D A Q G lv st ah k n h H locs ls hR hS hL
  obtain ⟨-, hx, hb, -⟩ := G
  obtain ⟨v, h1, h2⟩ := ac_ldv h
  obtain ⟨⟨x, rfl⟩, h⟩ := ac_isIv h2
  exact lv_iload hx hb hd (hL.2.2.2 _ _ h1) (h H locs ls hR hS hL)
theorem so_iload_n {i : Fin 4} {j : Nat} (hd : decode M.2.2.1 pc = .ok (.iload_n i, 1)) (hi : (i : Nat) = j) (hn : pc + 1 = nx) : ac_So M scr pc (op_iload j nx) := by
  subst hn
  intro p l e s m args below meth c base D A Q G lv st ah k n h H locs ls hR hS hL
  obtain ⟨-, hx, hb, -⟩ := G
  obtain ⟨v, h1, h2⟩ := ac_ldv h
  obtain ⟨⟨x, rfl⟩, h⟩ := ac_isIv h2
  exact lv_iload_n hx hb hd hi (hL.2.2.2 _ _ h1) (h H locs ls hR hS hL)
theorem so_lload {i : Nat} (hd : decode M.2.2.1 pc = .ok (.lload i, 2)) (hn : pc + 2 = nx) : ac_So M scr pc (op_lload i nx) := by
  subst hn
  intro p l e s m args below meth c base D A Q G lv st ah k n h H locs ls hR hS hL
  obtain ⟨-, hx, hb, -⟩ := G
  obtain ⟨v, h1, h2⟩ := ac_ldv h
  obtain ⟨⟨x, rfl⟩, h⟩ := ac_isLv h2
  exact lv_lload hx hb hd (hL.2.2.2 _ _ h1) (h H locs ls hR hS hL)
theorem so_lload_n {i : Fin 4} {j : Nat} (hd : decode M.2.2.1 pc = .ok (.lload_n i, 1)) (hi : (i : Nat) = j) (hn : pc + 1 = nx) : ac_So M scr pc (op_lload j nx) := by
  subst hn
  intro p l e s m args below meth c base D A Q G lv st ah k n h H locs ls hR hS hL
  obtain ⟨-, hx, hb, -⟩ := G
  obtain ⟨v, h1, h2⟩ := ac_ldv h
  obtain ⟨⟨x, rfl⟩, h⟩ := ac_isLv h2
  exact lv_lload_n hx hb hd hi (hL.2.2.2 _ _ h1) (h H locs ls hR hS hL)
theorem so_aload {i : Nat} (hd : decode M.2.2.1 pc = .ok (.aload i, 2)) (hn : pc + 2 = nx) : ac_So M scr pc (op_aload i nx) := by
  subst hn
  intro p l e s m args below meth c base D A Q G lv st ah k n h H locs ls hR hS hL
  obtain ⟨-, hx, hb, -⟩ := G
  obtain ⟨v, h1, h2⟩ := ac_ldv h
  obtain ⟨h3, h⟩ := ac_isAv h2
  rcases h3 with rfl | ⟨x, rfl⟩
  · exact lv_aloadN hx hb hd (hL.2.2.2 _ _ h1) (h H locs ls hR hS hL)
  · exact lv_aload hx hb hd (hL.2.2.2 _ _ h1) (h H locs ls hR hS hL)
theorem so_aload_n {i : Fin 4} {j : Nat} (hd : decode M.2.2.1 pc = .ok (.aload_n i, 1)) (hi : (i : Nat) = j) (hn : pc + 1 = nx) : ac_So M scr pc (op_aload j nx) := by
  subst hn
  intro p l e s m args below meth c base D A Q G lv st ah k n h H locs ls hR hS hL
  obtain ⟨-, hx, hb, -⟩ := G
  obtain ⟨v, h1, h2⟩ := ac_ldv h
  obtain ⟨h3, h⟩ := ac_isAv h2
  rcases h3 with rfl | ⟨x, rfl⟩
  · exact lv_aload_nN hx hb hd hi (hL.2.2.2 _ _ h1) (h H locs ls hR hS hL)
  · exact lv_aload_n hx hb hd hi (hL.2.2.2 _ _ h1) (h H locs ls hR hS hL)
theorem so_istore {i : Nat} (hd : decode M.2.2.1 pc = .ok (.istore i, 2)) (hn : pc + 2 = nx) : ac_So M scr pc (op_istore i nx) := by
  subst hn
  intro p l e s m args below meth c base D A Q G lv st ah k n h H locs ls hR hS hL
  obtain ⟨-, hx, hb, -⟩ := G
  obtain ⟨x, r, rfl, h⟩ := ac_i1v h
  obtain ⟨lv', hs, h⟩ := ac_st1v h
  exact lv_istore hx hb hd hL.has (by rw [← hL.2.2.1]; exact hs.2.1) rfl (fun ls' hh => h H locs ls' hR hS (hL.st1 hs hh))
theorem so_istore_n {i : Fin 4} {j : Nat} (hd : decode M.2.2.1 pc = .ok (.istore_n i, 1)) (hi : (i : Nat) = j) (hn : pc + 1 = nx) : ac_So M scr pc (op_istore j nx) := by
  subst hn
  intro p l e s m args below meth c base D A Q G lv st ah k n h H locs ls hR hS hL
  obtain ⟨-, hx, hb, -⟩ := G
  obtain ⟨x, r, rfl, h⟩ := ac_i1v h
  obtain ⟨lv', hs, h⟩ := ac_st1v h
  exact lv_istore_n hx hb hd hi hL.has (by rw [← hL.2.2.1]; exact hs.2.1) rfl (fun ls' hh => h H locs ls' hR hS (hL.st1 hs hh))
theorem so_lstore {i : Nat} (hd : decode M.2.2.1 pc = .ok (.lstore i, 2)) (hn : pc + 2 = nx) : ac_So M scr pc (op_lstore i nx) := by
  subst hn
  intro p l e s m args below meth c base D A Q G lv st ah k n h H locs ls hR hS hL
  obtain ⟨-, hx, hb, -⟩ := G
  obtain ⟨x, r, rfl, h⟩ := ac_l1v h
  obtain ⟨lv', hs, h⟩ := ac_st2v h
  exact lv_lstore hx hb hd hL.has (by rw [← hL.2.2.1]; exact hs.2.1) rfl (fun ls' hh => h H locs ls' hR hS (hL.st2 hs hh))
theorem so_lstore_n {i : Fin 4} {j : Nat} (hd : decode M.2.2.1 pc = .ok (.lstore_n i, 1)) (hi : (i : Nat) = j) (hn : pc + 1 = nx) : ac_So M scr pc (op_lstore j nx) := by
  subst hn
  intro p l e s m args below meth c base D A Q G lv st ah k n h H locs ls hR hS hL
  obtain ⟨-, hx, hb, -⟩ := G
  obtain ⟨x, r, rfl, h⟩ := ac_l1v h
  obtain ⟨lv', hs, h⟩ := ac_st2v h
  exact lv_lstore_n hx hb hd hi hL.has (by rw [← hL.2.2.1]; exact hs.2.1) rfl (fun ls' hh => h H locs ls' hR hS (hL.st2 hs hh))
theorem so_astore {i : Nat} (hd : decode M.2.2.1 pc = .ok (.astore i, 2)) (hn : pc + 2 = nx) : ac_So M scr pc (op_astore i nx) := by
  subst hn
  intro p l e s m args below meth c base D A Q G lv st ah k n h H locs ls hR hS hL
  obtain ⟨-, hx, hb, -⟩ := G
  rcases ac_n1v h with ⟨r, rfl, h⟩ | ⟨x, r, rfl, h⟩
  · obtain ⟨lv', hs, h⟩ := ac_st1v h
    exact lv_astoreN hx hb hd hL.has (by rw [← hL.2.2.1]; exact hs.2.1) rfl (fun ls' hh => h H locs ls' hR hS (hL.st1 hs hh))
  · obtain ⟨lv', hs, h⟩ := ac_st1v h
    exact lv_astore hx hb hd hL.has (by rw [← hL.2.2.1]; exact hs.2.1) rfl (fun ls' hh => h H locs ls' hR hS (hL.st1 hs hh))
theorem so_astore_n {i : Fin 4} {j : Nat} (hd : decode M.2.2.1 pc = .ok (.astore_n i, 1)) (hi : (i : Nat) = j) (hn : pc + 1 = nx) : ac_So M scr pc (op_astore j nx) := by
  subst hn
  intro p l e s m args below meth c base D A Q G lv st ah k n h H locs ls hR hS hL
  obtain ⟨-, hx, hb, -⟩ := G
  rcases ac_n1v h with ⟨r, rfl, h⟩ | ⟨x, r, rfl, h⟩
  · obtain ⟨lv', hs, h⟩ := ac_st1v h
    exact lv_astore_nN hx hb hd hi hL.has (by rw [← hL.2.2.1]; exact hs.2.1) rfl (fun ls' hh => h H locs ls' hR hS (hL.st1 hs hh))
  · obtain ⟨lv', hs, h⟩ := ac_st1v h
    exact lv_astore_n hx hb hd hi hL.has (by rw [← hL.2.2.1]; exact hs.2.1) rfl (fun ls' hh => h H locs ls' hR hS (hL.st1 hs hh))
theorem so_iinc {i : Nat} {d : Int} {dv : Int32} (hd : decode M.2.2.1 pc = .ok (.iinc i d, 3)) (hv : Int32.ofInt d = dv) (hn : pc + 3 = nx) : ac_So M scr pc (op_iinc i dv nx) := by
  subst hn
  intro p l e s m args below meth c base D A Q G lv st ah k n h H locs ls hR hS hL
  obtain ⟨-, hx, hb, -⟩ := G
  obtain ⟨v, h1, h2⟩ := ac_ldv h
  obtain ⟨x, r, hr, h⟩ := ac_i1v h2
  cases hr
  obtain ⟨lv', hs, h⟩ := ac_st1v h
  have hm := ac_pr_of (i := 0) h1
  rw [Nat.zero_add] at hm
  obtain ⟨q, hq⟩ := List.getElem?_of_mem hm
  exact lv_iinc hx hb hd hL.has hq (by rw [hv]) (by rw [← hL.2.2.1]; exact hs.2.1) rfl (fun ls' hh => h H locs ls' hR hS (hL.st1 hs hh))
theorem so_iadd (hd : decode M.2.2.1 pc = .ok (.iadd, 1)) (hn : pc + 1 = nx) : ac_So M scr pc (op_ii (fun x y => x + y) nx) := by
  subst hn
  intro p l e s m args below meth c base D A Q G lv st ah k n h H locs ls hR hS hL
  obtain ⟨-, hx, hb, -⟩ := G
  obtain ⟨y, r1, rfl, g1⟩ := ac_i1v h
  obtain ⟨x, r2, rfl, g2⟩ := ac_i1v g1
  exact lv_iadd hx hb hd (g2 H locs ls hR hS hL)
theorem so_isub (hd : decode M.2.2.1 pc = .ok (.isub, 1)) (hn : pc + 1 = nx) : ac_So M scr pc (op_ii (fun x y => x - y) nx) := by
  subst hn
  intro p l e s m args below meth c base D A Q G lv st ah k n h H locs ls hR hS hL
  obtain ⟨-, hx, hb, -⟩ := G
  obtain ⟨y, r1, rfl, g1⟩ := ac_i1v h
  obtain ⟨x, r2, rfl, g2⟩ := ac_i1v g1
  exact lv_isub hx hb hd (g2 H locs ls hR hS hL)
theorem so_imul (hd : decode M.2.2.1 pc = .ok (.imul, 1)) (hn : pc + 1 = nx) : ac_So M scr pc (op_ii (fun x y => x * y) nx) := by
  subst hn
  intro p l e s m args below meth c base D A Q G lv st ah k n h H locs ls hR hS hL
  obtain ⟨-, hx, hb, -⟩ := G
  obtain ⟨y, r1, rfl, g1⟩ := ac_i1v h
  obtain ⟨x, r2, rfl, g2⟩ := ac_i1v g1
  exact lv_imul hx hb hd (g2 H locs ls hR hS hL)
theorem so_iand (hd : decode M.2.2.1 pc = .ok (.iand, 1)) (hn : pc + 1 = nx) : ac_So M scr pc (op_ii (fun x y => x &&& y) nx) := by
  subst hn
  intro p l e s m args below meth c base D A Q G lv st ah k n h H locs ls hR hS hL
  obtain ⟨-, hx, hb, -⟩ := G
  obtain ⟨y, r1, rfl, g1⟩ := ac_i1v h
  obtain ⟨x, r2, rfl, g2⟩ := ac_i1v g1
  exact lv_iand hx hb hd (g2 H locs ls hR hS hL)
theorem so_ladd (hd : decode M.2.2.1 pc = .ok (.ladd, 1)) (hn : pc + 1 = nx) : ac_So M scr pc (op_ll (fun x y => x + y) nx) := by
  subst hn
  intro p l e s m args below meth c base D A Q G lv st ah k n h H locs ls hR hS hL
  obtain ⟨-, hx, hb, -⟩ := G
  obtain ⟨y, r1, rfl, g1⟩ := ac_l1v h
  obtain ⟨x, r2, rfl, g2⟩ := ac_l1v g1
  exact lv_ladd hx hb hd (g2 H locs ls hR hS hL)
theorem so_lsub (hd : decode M.2.2.1 pc = .ok (.lsub, 1)) (hn : pc + 1 = nx) : ac_So M scr pc (op_ll (fun x y => x - y) nx) := by
  subst hn
  intro p l e s m args below meth c base D A Q G lv st ah k n h H locs ls hR hS hL
  obtain ⟨-, hx, hb, -⟩ := G
  obtain ⟨y, r1, rfl, g1⟩ := ac_l1v h
  obtain ⟨x, r2, rfl, g2⟩ := ac_l1v g1
  exact lv_lsub hx hb hd (g2 H locs ls hR hS hL)
theorem so_lmul (hd : decode M.2.2.1 pc = .ok (.lmul, 1)) (hn : pc + 1 = nx) : ac_So M scr pc (op_ll (fun x y => x * y) nx) := by
  subst hn
  intro p l e s m args below meth c base D A Q G lv st ah k n h H locs ls hR hS hL
  obtain ⟨-, hx, hb, -⟩ := G
  obtain ⟨y, r1, rfl, g1⟩ := ac_l1v h
  obtain ⟨x, r2, rfl, g2⟩ := ac_l1v g1
  exact lv_lmul hx hb hd (g2 H locs ls hR hS hL)
theorem so_land (hd : decode M.2.2.1 pc = .ok (.land, 1)) (hn : pc + 1 = nx) : ac_So M scr pc (op_ll (fun x y => x &&& y) nx) := by
  subst hn
  intro p l e s m args below meth c base D A Q G lv st ah k n h H locs ls hR hS hL
  obtain ⟨-, hx, hb, -⟩ := G
  obtain ⟨y, r1, rfl, g1⟩ := ac_l1v h
  obtain ⟨x, r2, rfl, g2⟩ := ac_l1v g1
  exact lv_land hx hb hd (g2 H locs ls hR hS hL)
theorem so_lor (hd : decode M.2.2.1 pc = .ok (.lor, 1)) (hn : pc + 1 = nx) : ac_So M scr pc (op_ll (fun x y => x ||| y) nx) := by
  subst hn
  intro p l e s m args below meth c base D A Q G lv st ah k n h H locs ls hR hS hL
  obtain ⟨-, hx, hb, -⟩ := G
  obtain ⟨y, r1, rfl, g1⟩ := ac_l1v h
  obtain ⟨x, r2, rfl, g2⟩ := ac_l1v g1
  exact lv_lor hx hb hd (g2 H locs ls hR hS hL)
theorem so_idiv (hd : decode M.2.2.1 pc = .ok (.idiv, 1)) (hn : pc + 1 = nx) : ac_So M scr pc (op_idiv nx) := by
  subst hn
  intro p l e s m args below meth c base D A Q G lv st ah k n h H locs ls hR hS hL
  obtain ⟨-, hx, hb, -⟩ := G
  obtain ⟨y, r1, rfl, g1⟩ := ac_i1v h
  obtain ⟨x, r2, rfl, h0, g2⟩ := ac_i1v g1
  exact lv_idiv hx hb hd h0 (g2 H locs ls hR hS hL)
theorem so_ldiv (hd : decode M.2.2.1 pc = .ok (.ldiv, 1)) (hn : pc + 1 = nx) : ac_So M scr pc (op_ldiv nx) := by
  subst hn
  intro p l e s m args below meth c base D A Q G lv st ah k n h H locs ls hR hS hL
  obtain ⟨-, hx, hb, -⟩ := G
  obtain ⟨y, r1, rfl, g1⟩ := ac_l1v h
  obtain ⟨x, r2, rfl, h0, g2⟩ := ac_l1v g1
  exact lv_ldiv hx hb hd h0 (g2 H locs ls hR hS hL)
theorem so_lrem (hd : decode M.2.2.1 pc = .ok (.lrem, 1)) (hn : pc + 1 = nx) : ac_So M scr pc (op_lrem nx) := by
  subst hn
  intro p l e s m args below meth c base D A Q G lv st ah k n h H locs ls hR hS hL
  obtain ⟨-, hx, hb, -⟩ := G
  obtain ⟨y, r1, rfl, g1⟩ := ac_l1v h
  obtain ⟨x, r2, rfl, h0, g2⟩ := ac_l1v g1
  exact lv_lrem hx hb hd h0 (g2 H locs ls hR hS hL)
theorem so_lshl (hd : decode M.2.2.1 pc = .ok (.lshl, 1)) (hn : pc + 1 = nx) : ac_So M scr pc (op_lshl nx) := by
  subst hn
  intro p l e s m args below meth c base D A Q G lv st ah k n h H locs ls hR hS hL
  obtain ⟨-, hx, hb, -⟩ := G
  obtain ⟨y, r1, rfl, g1⟩ := ac_i1v h
  obtain ⟨x, r2, rfl, g2⟩ := ac_l1v g1
  exact lv_lshl hx hb hd rfl (g2 H locs ls hR hS hL)
theorem so_lcmp (hd : decode M.2.2.1 pc = .ok (.lcmp, 1)) (hn : pc + 1 = nx) : ac_So M scr pc (op_lcmp nx) := by
  subst hn
  intro p l e s m args below meth c base D A Q G lv st ah k n h H locs ls hR hS hL
  obtain ⟨-, hx, hb, -⟩ := G
  obtain ⟨y, r1, rfl, g1⟩ := ac_l1v h
  obtain ⟨x, r2, rfl, g2⟩ := ac_l1v g1
  exact W.lcmp hx hb hd (g2 H locs ls hR hS hL)
theorem so_i2l (hd : decode M.2.2.1 pc = .ok (.i2l, 1)) (hn : pc + 1 = nx) : ac_So M scr pc (op_i (fun x => .long x.toInt64) nx) := by
  subst hn
  intro p l e s m args below meth c base D A Q G lv st ah k n h H locs ls hR hS hL
  obtain ⟨-, hx, hb, -⟩ := G
  obtain ⟨x, r, rfl, h⟩ := ac_i1v h
  exact lv_i2l hx hb hd rfl (h H locs ls hR hS hL)
theorem so_i2b (hd : decode M.2.2.1 pc = .ok (.i2b, 1)) (hn : pc + 1 = nx) : ac_So M scr pc (op_i (fun x => .int x.toInt8.toInt32) nx) := by
  subst hn
  intro p l e s m args below meth c base D A Q G lv st ah k n h H locs ls hR hS hL
  obtain ⟨-, hx, hb, -⟩ := G
  obtain ⟨x, r, rfl, h⟩ := ac_i1v h
  exact lv_i2b hx hb hd rfl (h H locs ls hR hS hL)
theorem so_i2s (hd : decode M.2.2.1 pc = .ok (.i2s, 1)) (hn : pc + 1 = nx) : ac_So M scr pc (op_i (fun x => .int x.toInt16.toInt32) nx) := by
  subst hn
  intro p l e s m args below meth c base D A Q G lv st ah k n h H locs ls hR hS hL
  obtain ⟨-, hx, hb, -⟩ := G
  obtain ⟨x, r, rfl, h⟩ := ac_i1v h
  exact lv_i2s hx hb hd rfl (h H locs ls hR hS hL)
theorem so_i2c (hd : decode M.2.2.1 pc = .ok (.i2c, 1)) (hn : pc + 1 = nx) : ac_So M scr pc (op_i (fun x => .int (x.toUInt32 % 65536).toInt32) nx) := by
  subst hn
  intro p l e s m args below meth c base D A Q G lv st ah k n h H locs ls hR hS hL
  obtain ⟨-, hx, hb, -⟩ := G
  obtain ⟨x, r, rfl, h⟩ := ac_i1v h
  exact lv_i2c hx hb hd rfl (h H locs ls hR hS hL)
theorem so_l2i (hd : decode M.2.2.1 pc = .ok (.l2i, 1)) (hn : pc + 1 = nx) : ac_So M scr pc (op_l (fun x => .int x.toInt32) nx) := by
  subst hn
  intro p l e s m args below meth c base D A Q G lv st ah k n h H locs ls hR hS hL
  obtain ⟨-, hx, hb, -⟩ := G
  obtain ⟨x, r, rfl, h⟩ := ac_l1v h
  exact lv_l2i hx hb hd rfl (h H locs ls hR hS hL)
theorem so_l2f (hd : decode M.2.2.1 pc = .ok (.l2f, 1)) (hn : pc + 1 = nx) : ac_So M scr pc (op_l (fun x => .float (FP.l2f x)) nx) := by
  subst hn
  intro p l e s m args below meth c base D A Q G lv st ah k n h H locs ls hR hS hL
  obtain ⟨-, hx, hb, -⟩ := G
  obtain ⟨x, r, rfl, h⟩ := ac_l1v h
  exact lv_l2f hx hb hd (h H locs ls hR hS hL)
theorem so_l2d (hd : decode M.2.2.1 pc = .ok (.l2d, 1)) (hn : pc + 1 = nx) : ac_So M scr pc (op_l (fun x => .double (FP.l2d x)) nx) := by
  subst hn
  intro p l e s m args below meth c base D A Q G lv st ah k n h H locs ls hR hS hL
  obtain ⟨-, hx, hb, -⟩ := G
  obtain ⟨x, r, rfl, h⟩ := ac_l1v h
  exact lv_l2d hx hb hd (h H locs ls hR hS hL)
theorem so_f2l (hd : decode M.2.2.1 pc = .ok (.f2l, 1)) (hn : pc + 1 = nx) : ac_So M scr pc (op_f2l nx) := by
  subst hn
  intro p l e s m args below meth c base D A Q G lv st ah k n h H locs ls hR hS hL
  obtain ⟨-, hx, hb, -⟩ := G
  match st, h with
  | .float x :: r, h => exact lv_f2l hx hb hd (h H locs ls hR hS hL)
theorem so_d2l (hd : decode M.2.2.1 pc = .ok (.d2l, 1)) (hn : pc + 1 = nx) : ac_So M scr pc (op_d2l nx) := by
  subst hn
  intro p l e s m args below meth c base D A Q G lv st ah k n h H locs ls hR hS hL
  obtain ⟨-, hx, hb, -⟩ := G
  match st, h with
  | .double x :: r, h => exact lv_d2l hx hb hd (h H locs ls hR hS hL)
theorem so_dup (hd : decode M.2.2.1 pc = .ok (.dup, 1)) (hn : pc + 1 = nx) : ac_So M scr pc (op_dup nx) := by
  subst hn
  intro p l e s m args below meth c base D A Q G lv st ah k n h H locs ls hR hS hL
  obtain ⟨-, hx, hb, -⟩ := G
  obtain ⟨x, r, rfl, h⟩ := ac_a1v h
  exact lv_dup hx hb hd rfl (h H locs ls hR hS hL)
theorem so_pop2 (hd : decode M.2.2.1 pc = .ok (.pop2, 1)) (hn : pc + 1 = nx) : ac_So M scr pc (op_pop2 nx) := by
  subst hn
  intro p l e s m args below meth c base D A Q G lv st ah k n h H locs ls hR hS hL
  obtain ⟨-, hx, hb, -⟩ := G
  obtain ⟨x, r, rfl, h⟩ := ac_l1v h
  exact lv_pop2_2 hx hb hd rfl (h H locs ls hR hS hL)
theorem so_if_eq {off : Int} (hd : decode M.2.2.1 pc = .ok (.ifCond .eq off, 3)) (ht : (pc : Int) + off = (tg : Int)) (hn : pc + 3 = nx) : ac_So M scr pc (op_if (fun x => x = 0) tg nx) := by
  subst hn
  intro p l e s m args below meth c base D A Q G lv st ah k n h H locs ls hR hS hL
  obtain ⟨-, hx, hb, -⟩ := G
  obtain ⟨x, r, rfl, h⟩ := ac_i1v h
  exact lv_if_eq hx hb hd ht (fun q => h.1 q H locs ls hR hS hL) (fun q => h.2 q H locs ls hR hS hL)
theorem so_if_ne {off : Int} (hd : decode M.2.2.1 pc = .ok (.ifCond .ne off, 3)) (ht : (pc : Int) + off = (tg : Int)) (hn : pc + 3 = nx) : ac_So M scr pc (op_if (fun x => ¬ x = 0) tg nx) := by
  subst hn
  intro p l e s m args below meth c base D A Q G lv st ah k n h H locs ls hR hS hL
  obtain ⟨-, hx, hb, -⟩ := G
  obtain ⟨x, r, rfl, h⟩ := ac_i1v h
  exact lv_if_ne hx hb hd ht (fun q => h.1 q H locs ls hR hS hL) (fun q => h.2 (fun z => z q) H locs ls hR hS hL)
theorem so_if_lt {off : Int} (hd : decode M.2.2.1 pc = .ok (.ifCond .lt off, 3)) (ht : (pc : Int) + off = (tg : Int)) (hn : pc + 3 = nx) : ac_So M scr pc (op_if (fun x => x < 0) tg nx) := by
  subst hn
  intro p l e s m args below meth c base D A Q G lv st ah k n h H locs ls hR hS hL
  obtain ⟨-, hx, hb, -⟩ := G
  obtain ⟨x, r, rfl, h⟩ := ac_i1v h
  exact lv_if_lt hx hb hd ht (fun q => h.1 q H locs ls hR hS hL) (fun q => h.2 q H locs ls hR hS hL)
theorem so_if_ge {off : Int} (hd : decode M.2.2.1 pc = .ok (.ifCond .ge off, 3)) (ht : (pc : Int) + off = (tg : Int)) (hn : pc + 3 = nx) : ac_So M scr pc (op_if (fun x => 0 ≤ x) tg nx) := by
  subst hn
  intro p l e s m args below meth c base D A Q G lv st ah k n h H locs ls hR hS hL
  obtain ⟨-, hx, hb, -⟩ := G
  obtain ⟨x, r, rfl, h⟩ := ac_i1v h
  exact lv_if_ge hx hb hd ht (fun q => h.1 q H locs ls hR hS hL) (fun q => h.2 q H locs ls hR hS hL)
theorem so_if_gt {off : Int} (hd : decode M.2.2.1 pc = .ok (.ifCond .gt off, 3)) (ht : (pc : Int) + off = (tg : Int)) (hn : pc + 3 = nx) : ac_So M scr pc (op_if (fun x => 0 < x) tg nx) := by
  subst hn
  intro p l e s m args below meth c base D A Q G lv st ah k n h H locs ls hR hS hL
  obtain ⟨-, hx, hb, -⟩ := G
  obtain ⟨x, r, rfl, h⟩ := ac_i1v h
  exact lv_if_gt hx hb hd ht (fun q => h.1 q H locs ls hR hS hL) (fun q => h.2 q H locs ls hR hS hL)
theorem so_if_le {off : Int} (hd : decode M.2.2.1 pc = .ok (.ifCond .le off, 3)) (ht : (pc : Int) + off = (tg : Int)) (hn : pc + 3 = nx) : ac_So M scr pc (op_if (fun x => x ≤ 0) tg nx) := by
  subst hn
  intro p l e s m args below meth c base D A Q G lv st ah k n h H locs ls hR hS hL
  obtain ⟨-, hx, hb, -⟩ := G
  obtain ⟨x, r, rfl, h⟩ := ac_i1v h
  exact lv_if_le hx hb hd ht (fun q => h.1 q H locs ls hR hS hL) (fun q => h.2 q H locs ls hR hS hL)
theorem so_icmp_eq {off : Int} (hd : decode M.2.2.1 pc = .ok (.if_icmp .eq off, 3)) (ht : (pc : Int) + off = (tg : Int)) (hn : pc + 3 = nx) : ac_So M scr pc (op_icmp (fun x y => x = y) tg nx) := by
  subst hn
  intro p l e s m args below meth c base D A Q G lv st ah k n h H locs ls hR hS hL
  obtain ⟨-, hx, hb, -⟩ := G
  obtain ⟨y, r1, rfl, g1⟩ := ac_i1v h
  obtain ⟨x, r2, rfl, g2⟩ := ac_i1v g1
  exact lv_icmp_eq hx hb hd ht (fun q => g2.1 q H locs ls hR hS hL) (fun q => g2.2 q H locs ls hR hS hL)
theorem so_icmp_ne {off : Int} (hd : decode M.2.2.1 pc = .ok (.if_icmp .ne off, 3)) (ht : (pc : Int) + off = (tg : Int)) (hn : pc + 3 = nx) : ac_So M scr pc (op_icmp (fun x y => ¬ x = y) tg nx) := by
  subst hn
  intro p l e s m args below meth c base D A Q G lv st ah k n h H locs ls hR hS hL
  obtain ⟨-, hx, hb, -⟩ := G
  obtain ⟨y, r1, rfl, g1⟩ := ac_i1v h
  obtain ⟨x, r2, rfl, g2⟩ := ac_i1v g1
  exact lv_icmp_ne hx hb hd ht (fun q => g2.1 q H locs ls hR hS hL) (fun q => g2.2 (fun z => z q) H locs ls hR hS hL)
theorem so_icmp_lt {off : Int} (hd : decode M.2.2.1 pc = .ok (.if_icmp .lt off, 3)) (ht : (pc : Int) + off = (tg : Int)) (hn : pc + 3 = nx) : ac_So M scr pc (op_icmp (fun x y => x < y) tg nx) := by
  subst hn
  intro p l e s m args below meth c base D A Q G lv st ah k n h H locs ls hR hS hL
  obtain ⟨-, hx, hb, -⟩ := G
  obtain ⟨y, r1, rfl, g1⟩ := ac_i1v h
  obtain ⟨x, r2, rfl, g2⟩ := ac_i1v g1
  exact lv_icmp_lt hx hb hd ht (fun q => g2.1 q H locs ls hR hS hL) (fun q => g2.2 q H locs ls hR hS hL)
theorem so_icmp_ge {off : Int} (hd : decode M.2.2.1 pc = .ok (.if_icmp .ge off, 3)) (ht : (pc : Int) + off = (tg : Int)) (hn : pc + 3 = nx) : ac_So M scr pc (op_icmp (fun x y => y ≤ x) tg nx) := by
  subst hn
  intro p l e s m args below meth c base D A Q G lv st ah k n h H locs ls hR hS hL
  obtain ⟨-, hx, hb, -⟩ := G
  obtain ⟨y, r1, rfl, g1⟩ := ac_i1v h
  obtain ⟨x, r2, rfl, g2⟩ := ac_i1v g1
  exact lv_icmp_ge hx hb hd ht (fun q => g2.1 q H locs ls hR hS hL) (fun q => g2.2 q H locs ls hR hS hL)
theorem so_icmp_gt {off : Int} (hd : decode M.2.2.1 pc = .ok (.if_icmp .gt off, 3)) (ht : (pc : Int) + off = (tg : Int)) (hn : pc + 3 = nx) : ac_So M scr pc (op_icmp (fun x y => y < x) tg nx) := by
  subst hn
  intro p l e s m args below meth c base D A Q G lv st ah k n h H locs ls hR hS hL
  obtain ⟨-, hx, hb, -⟩ := G
  obtain ⟨y, r1, rfl, g1⟩ := ac_i1v h
  obtain ⟨x, r2, rfl, g2⟩ := ac_i1v g1
  exact lv_icmp_gt hx hb hd ht (fun q => g2.1 q H locs ls hR hS hL) (fun q => g2.2 q H locs ls hR hS hL)
theorem so_icmp_le {off : Int} (hd : decode M.2.2.1 pc = .ok (.if_icmp .le off, 3)) (ht : (pc : Int) + off = (tg : Int)) (hn : pc + 3 = nx) : ac_So M scr pc (op_icmp (fun x y => x ≤ y) tg nx) := by
  subst hn
  intro p l e s m args below meth c base D A Q G lv st ah k n h H locs ls hR hS hL
  obtain ⟨-, hx, hb, -⟩ := G
  obtain ⟨y, r1, rfl, g1⟩ := ac_i1v h
  obtain ⟨x, r2, rfl, g2⟩ := ac_i1v g1
  exact lv_icmp_le hx hb hd ht (fun q => g2.1 q H locs ls hR hS hL) (fun q => g2.2 q H locs ls hR hS hL)
theorem so_goto {off : Int} (hd : decode M.2.2.1 pc = .ok (.goto off, 3)) (ht : (pc : Int) + off = (tg : Int)) : ac_So M scr pc (op_goto tg) := by
  intro p l e s m args below meth c base D A Q G lv st ah k n h H locs ls hR hS hL
  obtain ⟨-, hx, hb, -⟩ := G
  exact lv_goto hx hb hd ht (h H locs ls hR hS hL)
theorem so_ifnull {off : Int} (hd : decode M.2.2.1 pc = .ok (.ifnull off, 3)) (ht : (pc : Int) + off = (tg : Int)) (hn : pc + 3 = nx) : ac_So M scr pc (op_ifnull tg nx) := by
  subst hn
  intro p l e s m args below meth c base D A Q G lv st ah k n h H locs ls hR hS hL
  obtain ⟨-, hx, hb, -⟩ := G
  rcases ac_n1v h with ⟨r, rfl, h⟩ | ⟨x, r, rfl, h⟩
  · exact lv_ifnullN hx hb hd ht (h H locs ls hR hS hL)
  · exact lv_ifnull hx hb hd (h H locs ls hR hS hL)
theorem so_ifnonnull {off : Int} (hd : decode M.2.2.1 pc = .ok (.ifnonnull off, 3)) (ht : (pc : Int) + off = (tg : Int)) (hn : pc + 3 = nx) : ac_So M scr pc (op_ifnonnull tg nx) := by
  subst hn
  intro p l e s m args below meth c base D A Q G lv st ah k n h H locs ls hR hS hL
  obtain ⟨-, hx, hb, -⟩ := G
  rcases ac_n1v h with ⟨r, rfl, h⟩ | ⟨x, r, rfl, h⟩
  · exact lv_ifnonnullN hx hb hd (h H locs ls hR hS hL)
  · exact lv_ifnonnull hx hb hd ht (h H locs ls hR hS hL)
theorem so_acmpne {off : Int} (hd : decode M.2.2.1 pc = .ok (.if_acmp .ne off, 3)) (ht : (pc : Int) + off = (tg : Int)) (hn : pc + 3 = nx) : ac_So M scr pc (op_acmpne tg nx) := by
  subst hn
  intro p l e s m args below meth c base D A Q G lv st ah k n h H locs ls hR hS hL
  obtain ⟨-, hx, hb, -⟩ := G
  rcases ac_n1v h with ⟨r, rfl, g⟩ | ⟨y, r, rfl, g⟩
  · rcases ac_n1v g with ⟨r, rfl, h⟩ | ⟨x, r, rfl, h⟩
    · exact lv_acmp_ne (rx := none) (ry := none) hx hb hd ht (fun q => absurd rfl q) (fun _ => h H locs ls hR hS hL)
    · exact lv_acmp_ne (rx := some x) (ry := none) hx hb hd ht (fun _ => h H locs ls hR hS hL) (fun q => by cases q)
  · rcases ac_n1v g with ⟨r, rfl, h⟩ | ⟨x, r, rfl, h⟩
    · exact lv_acmp_ne (rx := none) (ry := some y) hx hb hd ht (fun _ => h H locs ls hR hS hL) (fun q => by cases q)
    · exact lv_acmp_ne (rx := some x) (ry := some y) hx hb hd ht (fun q => h.1 (fun z => q (by rw [z])) H locs ls hR hS hL) (fun q => h.2 (Option.some.inj q) H locs ls hR hS hL)
theorem ac_swv {P : Nat → Prop} {x : Int32} : ∀ {ts : List Nat} {j i t : Nat}, ac_sw P x j ts → ts[i]? = some t → x = nI (j + i) → P t
  | [], j, i, t, _, ht, _ => by simp at ht
  | a :: ts, j, 0, t, h, ht, hx => by
    have e : a = t := by simpa using ht
    subst e
    exact h.1 (by simpa using hx)
  | a :: ts, j, i + 1, t, h, ht, hx => ac_swv (ts := ts) (j := j + 1) (i := i) h.2 (by simpa using ht) (by rw [hx]; congr 1; omega)
theorem so_switch {dflt hi : Int} {offs : Array Int} {len df : Nat} {ts : List Nat} (hd : decode M.2.2.1 pc = .ok (.tableswitch dflt 0 hi offs, len)) (h1 : hi = (ts.length : Int) - 1) (h2 : offs.toList = ts.map (fun t : Nat => (t : Int) - (pc : Int))) (h3 : (pc : Int) + dflt = (df : Int)) (h4 : ts.length < 2 ^ 31) : ac_So M scr pc (op_switch df ts) := by
  intro p l e s m args below meth c base D A Q G lv st ah k n h H locs ls hR hS hL
  obtain ⟨-, hx, hb, -⟩ := G
  obtain ⟨x, r, rfl, g⟩ := ac_i1v h
  by_cases hlo : x.toInt < 0
  · exact lv_tableOut hx hb hd (Or.inl hlo) h3 (g.2 (Or.inl hlo) H locs ls hR hS hL)
  · by_cases hhi : hi < x.toInt
    · exact lv_tableOut hx hb hd (Or.inr hhi) h3 (g.2 (Or.inr (by omega)) H locs ls hR hS hL)
    · obtain ⟨j, hj, rfl⟩ := nI_of (x := x) (by rw [Int32.lt_iff_toInt_lt]; exact hlo)
      rw [nI_toInt hj] at hhi
      have hjl : j < ts.length := by omega
      have hgo : offs[((nI j).toInt - 0).toNat]? = some ((ts[j] : Int) - (pc : Int)) := by
        rw [nI_toInt hj, ← Array.getElem?_toList, h2]
        simp [hjl]
      exact lv_tableIn (tgt := ts[j]) hx hb hd hlo (by rw [nI_toInt hj]; exact hhi) hgo (by omega) (ac_swv g.1 (i := j) (by simp [hjl]) (by rw [Nat.zero_add]) H locs ls hR hS hL)
end ACA
end
section
/-! ===== returns, the heap, calls, throws: the abstract side ===== -/
def op_ireturn (R : Room) : ac_op := fun _ Q _ st h k n => ac_i1 st (fun x r => r = [] ∧ Q (.inl (some (.int x))) h ∧ k ≤ R.cells ∧ n ≤ R.slots)
def op_zreturn (R : Room) : ac_op := fun _ Q _ st h k n => ac_i1 st (fun x r => r = [] ∧ (x = 0 ∨ x = 1) ∧ Q (.inl (some (.int x))) h ∧ k ≤ R.cells ∧ n ≤ R.slots)
def op_lreturn (R : Room) : ac_op := fun _ Q _ st h k n => ac_l1 st (fun x r => r = [] ∧ Q (.inl (some (.long x))) h ∧ k ≤ R.cells ∧ n ≤ R.slots)
def op_areturn (R : Room) : ac_op := fun _ Q _ st h k n => ac_n1 st (fun r => r = [] ∧ Q (.inl (some .null)) h ∧ k ≤ R.cells ∧ n ≤ R.slots) (fun x r => r = [] ∧ Q (.inl (some (.ref x))) h ∧ k ≤ R.cells ∧ n ≤ R.slots)
def op_return (R : Room) : ac_op := fun _ Q _ st h k n => st = [] ∧ Q (.inl none) h ∧ k ≤ R.cells ∧ n ≤ R.slots
/-- new E(); dup; its constructor; athrow -/
def op_throw (R : Room) (x : Nat) : ac_op := fun _ Q _ st h k n => Q (.inr x) h ∧ k + 1 ≤ R.cells ∧ n + 6 ≤ R.slots ∧ st = []
/-- the length of null -/
def op_npe (R : Room) : ac_op := fun _ Q _ st h k n => st = [.null] ∧ Q (.inr 1) h ∧ k + 1 ≤ R.cells ∧ n + 8 ≤ R.slots
/-- an element of the empty row: static, index, load -/
def op_oob (R : Room) : ac_op := fun _ Q lv st h k n => ac_ld lv 0 (fun v => ac_isI v (st = [] ∧ Q (.inr 3) h ∧ k + 3 ≤ R.cells ∧ n + 222 ≤ R.slots))
/-- a new row of a negative length -/
def op_nas (R : Room) : ac_op := fun _ Q _ st h k n => ac_i1 st (fun x r => r = [] ∧ x < 0 ∧ Q (.inr 4) h ∧ k + 3 ≤ R.cells ∧ n + 222 ≤ R.slots)
/-- which kind of value a field of a class holds: 0 int, 1 long, 2 reference -/
def ac_fk : Nat → Nat → Nat
  | 4, 0 => 2
  | 5, 0 => 1
  | 5, 1 => 2
  | 6, 0 => 0
  | 6, 1 => 2
  | 6, 2 => 2
  | 7, 0 => 2
  | 7, 1 => 0
  | 7, 2 => 0
  | 8, 0 => 2
  | 8, 1 => 0
  | 9, 8 => 0
  | 9, 9 => 0
  | 9, 10 => 0
  | 9, 11 => 0
  | 9, 0 => 2
  | 9, 1 => 2
  | 9, 2 => 2
  | 9, 3 => 2
  | 9, 4 => 2
  | 9, 5 => 2
  | 9, 6 => 2
  | 9, 7 => 2
  | _, _ => 3
def ac_kv : Nat → Value → Prop → Prop
  | 0, .int _, X => X
  | 1, .long _, X => X
  | 2, .ref _, X => X
  | 2, .null, X => X
  | _, _, _ => False
def op_get (ci f nx : Nat) : ac_op := fun P _ lv st h k n => ac_a1 st (fun a r => ∃ (fs : List Value) (v : Value), h a = some (.inl (ci, fs)) ∧ fs[f]? = some v ∧ P nx lv (v :: r) h k n)
def op_put (ci f nx : Nat) : ac_op := fun P _ lv st h k n => match st with
  | v :: st => ac_a1 st (fun a r => ∃ fs : List Value, h a = some (.inl (ci, fs)) ∧ f < fs.length ∧ ac_kv (ac_fk ci f) v (P nx lv r (ac_hs h a (.inl (ci, fs.set f v))) k n))
  | _ => False
def op_iald (nx : Nat) : ac_op := fun P _ lv st h k n => ac_i1 st (fun i r => ac_a1 r (fun a r => ∃ (z : Nat) (f : Nat → Int32), h a = some (.inr (0, z, .inl f)) ∧ vp_in i z ∧ P nx lv (.int (f i.toNatClampNeg) :: r) h k n))
def op_zald (nx : Nat) : ac_op := fun P _ lv st h k n => ac_i1 st (fun i r => ac_a1 r (fun a r => ∃ (z : Nat) (f : Nat → Int32), h a = some (.inr (1, z, .inl f)) ∧ vp_in i z ∧ P nx lv (.int (f i.toNatClampNeg) :: r) h k n))
def op_lald (nx : Nat) : ac_op := fun P _ lv st h k n => ac_i1 st (fun i r => ac_a1 r (fun a r => ∃ (z : Nat) (f : Nat → Int64), h a = some (.inr (2, z, .inr (.inl f))) ∧ vp_in i z ∧ P nx lv (.long (f i.toNatClampNeg) :: r) h k n))
/-- t: 3 rows of items, 4 rows of rows -/
def op_aald (t nx : Nat) : ac_op := fun P _ lv st h k n => ac_i1 st (fun i r => ac_a1 r (fun a r => ∃ (z : Nat) (f : Nat → Option Nat), h a = some (.inr (t, z, .inr (.inr f))) ∧ vp_in i z ∧ (f i.toNatClampNeg = none → P nx lv (.null :: r) h k n) ∧ ∀ q, f i.toNatClampNeg = some q → P nx lv (.ref q :: r) h k n))
def op_iast (nx : Nat) : ac_op := fun P _ lv st h k n => ac_i1 st (fun x r => ac_i1 r (fun i r => ac_a1 r (fun a r => ∃ (z : Nat) (f : Nat → Int32), h a = some (.inr (0, z, .inl f)) ∧ vp_in i z ∧ P nx lv r (ac_hs h a (.inr (0, z, .inl (upd f i.toNatClampNeg x)))) k n)))
def op_zast (nx : Nat) : ac_op := fun P _ lv st h k n => ac_i1 st (fun x r => ac_i1 r (fun i r => ac_a1 r (fun a r => ∃ (z : Nat) (f : Nat → Int32), h a = some (.inr (1, z, .inl f)) ∧ vp_in i z ∧ (x = 0 ∨ x = 1) ∧ P nx lv r (ac_hs h a (.inr (1, z, .inl (upd f i.toNatClampNeg x)))) k n)))
def op_last (nx : Nat) : ac_op := fun P _ lv st h k n => ac_l1 st (fun x r => ac_i1 r (fun i r => ac_a1 r (fun a r => ∃ (z : Nat) (f : Nat → Int64), h a = some (.inr (2, z, .inr (.inl f))) ∧ vp_in i z ∧ P nx lv r (ac_hs h a (.inr (2, z, .inr (.inl (vp_updL f i.toNatClampNeg x))))) k n)))
def ac_item : Nat → Prop → Prop
  | 4, X => X
  | 5, X => X
  | 6, X => X
  | 7, X => X
  | _, _ => False
def op_aast (t nx : Nat) : ac_op := fun P _ lv st h k n => ac_n1 st (fun r => ac_i1 r (fun i r => ac_a1 r (fun a r => ∃ (z : Nat) (f : Nat → Option Nat), h a = some (.inr (t, z, .inr (.inr f))) ∧ vp_in i z ∧ P nx lv r (ac_hs h a (.inr (t, z, .inr (.inr (va_up f i.toNatClampNeg none))))) k n))) (fun v r => ac_i1 r (fun i r => ac_a1 r (fun a r => t = 3 ∧ ∃ (z : Nat) (f : Nat → Option Nat) (ci : Nat) (fs : List Value), h a = some (.inr (3, z, .inr (.inr f))) ∧ h v = some (.inl (ci, fs)) ∧ ac_item ci (vp_in i z ∧ P nx lv r (ac_hs h a (.inr (3, z, .inr (.inr (va_up f i.toNatClampNeg (some v)))))) k n))))
def op_alen (t nx : Nat) : ac_op := fun P _ lv st h k n => ac_a1 st (fun a r => ∃ (z : Nat) (f : ac_C), h a = some (.inr (t, z, f)) ∧ P nx lv (.int (nI z) :: r) h k n)
/-- the law's own script -/
def op_sld (scr : Nat → Nat → (Nat → Int32) → Prop) (nx : Nat) : ac_op := fun P _ lv st h k n => ac_i1 st (fun i r => ac_a1 r (fun a r => ∃ (z : Nat) (f : Nat → Int32), scr a z f ∧ vp_in i z ∧ P nx lv (.int (f i.toNatClampNeg) :: r) h k n))
def op_slen (scr : Nat → Nat → (Nat → Int32) → Prop) (nx : Nat) : ac_op := fun P _ lv st h k n => ac_a1 st (fun a r => ∃ (z : Nat) (f : Nat → Int32), scr a z f ∧ P nx lv (.int (nI z) :: r) h k n)
/-- a new row of t: 0 ints, 1 booleans, 2 longs, 3 items; w bounds its length -/
def ac_zero : Nat → ac_C
  | 0 => .inl (fun _ => 0)
  | 1 => .inl (fun _ => 0)
  | 2 => .inr (.inl (fun _ => 0))
  | _ => .inr (.inr (fun _ => none))
def op_newa (R : Room) (t nx : Nat) : ac_op := fun P _ lv st h k n => ac_i1 st (fun m r => ¬ m < 0 ∧ ∃ w : Nat, m.toNatClampNeg ≤ w ∧ w ≤ 65536 ∧ k + 1 ≤ R.cells ∧ n + w ≤ R.slots ∧ ∀ q : Nat, h q = none → P nx lv (.ref q :: r) (ac_hs h q (.inr (t, m.toNatClampNeg, ac_zero t))) (k + 1) (n + w))
/-- the fields of a new object -/
def ac_fr : Nat → List Value
  | 4 => [.null]
  | 5 => [.long 0, .null]
  | 6 => [.int 0, .null, .null]
  | 7 => [.null, .int 0, .int 0]
  | 8 => [.null, .int 0]
  | 9 => [.null, .null, .null, .null, .null, .null, .null, .null, .int 0, .int 0, .int 0, .int 0]
  | _ => []
def ac_nf : Nat → Nat
  | 4 => 1
  | 5 => 2
  | 6 => 3
  | 7 => 3
  | 8 => 2
  | 9 => 12
  | _ => 0
def op_new (R : Room) (ci nx : Nat) : ac_op := fun P _ lv st h k n => k + 1 ≤ R.cells ∧ n + ac_nf ci ≤ R.slots ∧ ∀ q : Nat, h q = none → P nx lv (.ref q :: st) (ac_hs h q (.inl (ci, ac_fr ci))) (k + 1) (n + ac_nf ci)
/-- a new grid of rows: the outer row at q, the inner ones behind it -/
def ac_mh (h : ac_H) (q N K : Nat) : ac_H := fun a => if a = q then some (.inr (4, N, .inr (.inr (fun j => if j < N then some (q + 1 + j) else none)))) else if q < a ∧ a ≤ q + N then some (.inr (0, K, .inl (fun _ => 0))) else h a
def op_mnew (R : Room) (nx : Nat) : ac_op := fun P _ lv st h k n => ac_i1 st (fun y r => ac_i1 r (fun x r => ¬ x < 0 ∧ ¬ y < 0 ∧ x.toNatClampNeg ≤ 6 ∧ y.toNatClampNeg ≤ 4 ∧ k + 7 ≤ R.cells ∧ n + 30 ≤ R.slots ∧ ∀ q : Nat, (∀ j, j ≤ x.toNatClampNeg → h (q + j) = none) → P nx lv (.ref q :: r) (ac_mh h q x.toNatClampNeg y.toNatClampNeg) (k + 7) (n + 30)))
def op_inst (ci nx : Nat) : ac_op := fun P _ lv st h k n => ac_n1 st (fun r => P nx lv (.int 0 :: r) h k n) (fun a r => ∃ (cj : Nat) (fs : List Value), h a = some (.inl (cj, fs)) ∧ ac_item cj (cond (Nat.beq cj ci) (P nx lv (.int 1 :: r) h k n) (P nx lv (.int 0 :: r) h k n)))
def op_cast (ci nx : Nat) : ac_op := fun P _ lv st h k n => ac_n1 st (fun r => P nx lv (.null :: r) h k n) (fun a r => ∃ fs : List Value, h a = some (.inl (ci, fs)) ∧ P nx lv (.ref a :: r) h k n)
-- calls
def ac_pop : Nat → List Value → List Value → (List Value → List Value → Prop) → Prop
  | 0, st, acc, K => K acc st
  | i + 1, v :: st, acc, K => ac_pop i st (v :: acc) K
  | _, _, _, _ => False
/-- which exception a row of the law's table of constants names -/
def ac_cx : Nat → Nat
  | 13 => 0
  | 27 => 1
  | 29 => 2
  | 41 => 3
  | 15 => 4
  | 31 => 5
  | 64 => 6
  | _ => 7
def ac_fnd : List (Nat × Nat × Nat × Nat) → Nat → Nat → Option Nat
  | [], _, _ => none
  | q :: r, pc, x => cond (Nat.ble q.1 pc && (Nat.ble (pc + 1) q.2.1 && Nat.beq (ac_cx q.2.2.2) x)) (some q.2.2.1) (ac_fnd r pc x)
def ac_hx : Option Nat → Prop → (Nat → Prop) → Prop
  | none, N, _ => N
  | some t, _, K => K t
/-- behind a call: it returned, or it threw x: caught by a row of the table, or on to the caller -/
def ac_ko (hh : List (Nat × Nat × Nat × Nat)) (pc nx : Nat) (P : ac_P) (Q : ac_Q) (lv : ac_V) (r : List Value) (k n : Nat) : ac_Q := fun o h => match o with
  | .inl none => P nx lv r h k n
  | .inl (some v) => P nx lv (v :: r) h k n
  | .inr x => x < 7 ∧ ac_hx (ac_fnd hh pc x) (Q (.inr x) h) (fun t => ∀ a : Nat, P t lv [.ref a] h k n)
/-- a call with these arguments -/
def ac_call (R : Room) (hh : List (Nat × Nat × Nat × Nat)) (pc nx : Nat) (T : ac_T) (rc : Room) (P : ac_P) (Q : ac_Q) (lv : ac_V) (as r : List Value) (h : ac_H) (k n : Nat) : Prop :=
  r.length ≤ 4 ∧ k + rc.cells ≤ R.cells ∧ n + rc.slots ≤ R.slots ∧ T as h (ac_ko hh pc nx P Q lv r (k + rc.cells) (n + rc.slots))
def op_callS (R : Room) (hh : List (Nat × Nat × Nat × Nat)) (T : ac_T) (rc : Room) (na pc nx : Nat) : ac_op := fun P Q lv st h k n => ac_pop na st [] (fun as r => ac_call R hh pc nx T rc P Q lv as r h k n)
/-- a constructor, or a method of a known class -/
def op_callI (R : Room) (hh : List (Nat × Nat × Nat × Nat)) (T : ac_T) (rc : Room) (na pc nx : Nat) : ac_op := fun P Q lv st h k n => ac_pop na st [] (fun as r => ac_a1 r (fun a r => ac_call R hh pc nx T rc P Q lv (.ref a :: as) r h k n))
def op_callV (R : Room) (hh : List (Nat × Nat × Nat × Nat)) (ci : Nat) (T : ac_T) (rc : Room) (na pc nx : Nat) : ac_op := fun P Q lv st h k n => ac_pop na st [] (fun as r => ac_a1 r (fun a r => ∃ fs : List Value, h a = some (.inl (ci, fs)) ∧ ac_call R hh pc nx T rc P Q lv (.ref a :: as) r h k n))
def ac_vt : List (Nat × ac_T × Room) → Nat → (ac_T → Room → Prop) → Prop
  | [], _, _ => False
  | q :: t, cj, K => cond (Nat.beq q.1 cj) (K q.2.1 q.2.2) (ac_vt t cj K)
/-- by the receiver's class -/
def op_callU (R : Room) (hh : List (Nat × Nat × Nat × Nat)) (tb : List (Nat × ac_T × Room)) (na pc nx : Nat) : ac_op := fun P Q lv st h k n => ac_pop na st [] (fun as r => ac_a1 r (fun a r => ∃ (cj : Nat) (fs : List Value), h a = some (.inl (cj, fs)) ∧ ac_vt tb cj (fun T rc => ac_call R hh pc nx T rc P Q lv (.ref a :: as) r h k n)))
def op_objinit (nx : Nat) : ac_op := fun P _ lv st h k n => ac_a1 st (fun _ r => r.length ≤ 4 ∧ P nx lv r h k n)
end
section
/-! ===== the heap: rows of the machine under the abstract heap ===== -/
theorem ac_fullR {base : Nat} {D : va_G} {A : Nat → ClassId} {ah : ac_H} {H : Heap} (h : ac_Rep base D A ah H) : ∃ ws : va_W, va_P D vwCl ws H ∧ va_D (ac_B base) ws ∧ (∀ (a : Nat) (e : ac_E), ah a = some e → ∃ k : Nat, ws[k]? = some (a, ac_em A e)) ∧ ∀ (k : Nat) (q : Nat × va_E), ws[k]? = some q → ∃ e : ac_E, ah q.1 = some e ∧ q.2 = ac_em A e := by
  have key : ∀ n : Nat, ∃ ws : va_W, (∀ q ∈ ws, q.1 < n ∧ ∃ e : ac_E, ah q.1 = some e ∧ q.2 = ac_em A e) ∧ (∀ (i j : Nat) (p q : Nat × va_E), ws[i]? = some p → ws[j]? = some q → p.1 = q.1 → i = j) ∧ ∀ (a : Nat) (e : ac_E), a < n → ah a = some e → (a, ac_em A e) ∈ ws := by
    intro n
    induction n with
    | zero => exact ⟨[], fun q hq => (by cases hq), fun i j p q hi => (by simp at hi), fun a e ha => absurd ha (Nat.not_lt_zero a)⟩
    | succ n ih =>
      obtain ⟨ws, h1, h2, h3⟩ := ih
      cases hn : ah n with
      | none =>
        refine ⟨ws, fun q hq => ⟨Nat.lt_succ_of_lt (h1 q hq).1, (h1 q hq).2⟩, h2, fun a e ha he => ?_⟩
        rcases Nat.lt_succ_iff_lt_or_eq.mp ha with hl | rfl
        · exact h3 a e hl he
        · rw [hn] at he; cases he
      | some e0 =>
        refine ⟨(n, ac_em A e0) :: ws, ?_, ?_, ?_⟩
        · intro q hq
          rcases List.mem_cons.mp hq with rfl | hq
          · exact ⟨Nat.lt_succ_self n, e0, hn, rfl⟩
          · exact ⟨Nat.lt_succ_of_lt (h1 q hq).1, (h1 q hq).2⟩
        · intro i j p q hi hj hpq
          match i, j, hi, hj with
          | 0, 0, _, _ => rfl
          | 0, j + 1, hi, hj =>
            have e1 : p = (n, ac_em A e0) := by simpa using hi.symm
            have e2 := (h1 q (List.mem_of_getElem? (by simpa using hj))).1
            rw [← hpq, e1] at e2
            exact absurd e2 (Nat.lt_irrefl n)
          | i + 1, 0, hi, hj =>
            have e1 : q = (n, ac_em A e0) := by simpa using hj.symm
            have e2 := (h1 p (List.mem_of_getElem? (by simpa using hi))).1
            rw [hpq, e1] at e2
            exact absurd e2 (Nat.lt_irrefl n)
          | i + 1, j + 1, hi, hj => exact congrArg (· + 1) (h2 i j p q (by simpa using hi) (by simpa using hj) hpq)
        · intro a e ha he
          rcases Nat.lt_succ_iff_lt_or_eq.mp ha with hl | rfl
          · exact List.mem_cons_of_mem _ (h3 a e hl he)
          · rw [hn] at he; cases he; exact List.mem_cons_self
  obtain ⟨ws, h1, h2, h3⟩ := key H.size
  refine ⟨ws, ?_, ⟨h2, ?_⟩, ?_, ?_⟩
  · intro k q hq
    obtain ⟨-, e, he, hx⟩ := h1 q (List.mem_of_getElem? hq)
    obtain ⟨a, x⟩ := q
    dsimp only at he hx
    subst hx
    exact (h.2 a e he).2
  · intro k q hq
    obtain ⟨-, e, he, hx⟩ := h1 q (List.mem_of_getElem? hq)
    exact (h.2 q.1 e he).1
  · intro a e he
    exact List.getElem?_of_mem (h3 a e (h.2 a e he).2.lt he)
  · intro k q hq
    exact (h1 q (List.mem_of_getElem? hq)).2
theorem ac_setR {base : Nat} {D : va_G} {A : Nat → ClassId} {ah : ac_H} {H1 : Heap} {ws : va_W} {a q0 : Nat} {x : va_E} (e' : ac_E) (hD : va_D (ac_B base) ws) (hin : ∀ (a : Nat) (e : ac_E), ah a = some e → ∃ k : Nat, ws[k]? = some (a, ac_em A e)) (h0 : ws[q0]? = some (a, x)) (hb : base ≤ H1.size) (hP : va_P D vwCl (ws.set q0 (a, ac_em A e')) H1) : ac_Rep base D A (ac_hs ah a e') H1 := by
  have hlt : q0 < ws.length := (List.getElem?_eq_some_iff.mp h0).1
  refine ⟨hb, fun b e hbe => ?_⟩
  unfold ac_hs at hbe
  by_cases q : b = a
  · subst q
    rw [if_pos rfl] at hbe
    cases hbe
    exact ⟨hD.2 q0 _ h0, hP q0 _ (by simp [hlt])⟩
  · rw [if_neg q] at hbe
    obtain ⟨k, hk⟩ := hin b e hbe
    have hne : q0 ≠ k := fun z => by subst z; rw [h0] at hk; cases hk; exact q rfl
    exact ⟨hD.2 k _ hk, hP k _ (by rw [List.getElem?_set_ne hne]; exact hk)⟩
theorem ac_appR {base : Nat} {D : va_G} {A : Nat → ClassId} {ah : ac_H} {H1 : Heap} {ws : va_W} {a : Nat} (e' : ac_E) (hin : ∀ (a : Nat) (e : ac_E), ah a = some e → ∃ k : Nat, ws[k]? = some (a, ac_em A e)) (hb : base ≤ H1.size) (hD : va_D (ac_B base) (ws ++ [(a, ac_em A e')])) (hP : va_P D vwCl (ws ++ [(a, ac_em A e')]) H1) : ah a = none ∧ ac_Rep base D A (ac_hs ah a e') H1 := by
  have hl : (ws ++ [(a, ac_em A e')])[ws.length]? = some (a, ac_em A e') := by simp
  have hk' : ∀ (b : Nat) (e : ac_E), ah b = some e → ∃ k : Nat, k < ws.length ∧ (ws ++ [(a, ac_em A e')])[k]? = some (b, ac_em A e) := by
    intro b e he
    obtain ⟨k, hk⟩ := hin b e he
    have hlt : k < ws.length := (List.getElem?_eq_some_iff.mp hk).1
    exact ⟨k, hlt, by rw [List.getElem?_append_left hlt]; exact hk⟩
  refine ⟨?_, hb, fun b e hbe => ?_⟩
  · cases he : ah a with
    | none => rfl
    | some e =>
      obtain ⟨k, h1, h2⟩ := hk' a e he
      have := hD.1 k ws.length _ _ h2 hl rfl
      omega
  · unfold ac_hs at hbe
    by_cases q : b = a
    · subst q
      rw [if_pos rfl] at hbe
      cases hbe
      exact ⟨hD.2 _ _ hl, hP _ _ hl⟩
    · rw [if_neg q] at hbe
      obtain ⟨k, -, h2⟩ := hk' b e hbe
      exact ⟨hD.2 k _ h2, hP k _ h2⟩
theorem ac_baseS {base : Nat} {H0 H : Heap} {locs : List Loc} (h0 : base ≤ H0.size) (h : va_S (ac_B base) H0 H locs) : base ≤ H.size := Nat.le_trans h0 h.1
theorem ac_newA {base : Nat} {H0 : Heap} (h0 : base ≤ H0.size) : ∀ q, H0.size ≤ q → ac_B base q := fun _ h => Nat.le_trans h0 h
/-- a kind and a field's type -/
def ac_fo : Nat → FieldType → Bool
  | 0, .int => true
  | 1, .long => true
  | 2, .object _ => true
  | 2, .array _ => true
  | _, _ => false
theorem ac_kvv {k : Nat} {ty : FieldType} {v : Value} {X : Prop} (hf : ac_fo k ty = true) (h : ac_kv k v X) : narrow ty v = v ∧ fits ty v = true ∧ X := by
  match k, v, h with
  | 0, .int x, h =>
    match ty, hf with
    | .int, _ => exact ⟨rfl, rfl, h⟩
  | 1, .long x, h =>
    match ty, hf with
    | .long, _ => exact ⟨rfl, rfl, h⟩
  | 2, .ref x, h =>
    match ty, hf with
    | .object _, _ => exact ⟨rfl, rfl, h⟩
    | .array _, _ => exact ⟨rfl, rfl, h⟩
  | 2, .null, h =>
    match ty, hf with
    | .object _, _ => exact ⟨rfl, rfl, h⟩
    | .array _, _ => exact ⟨rfl, rfl, h⟩
section ACH
variable {M : ac_D} {scr : Nat → Nat → (Nat → Int32) → Prop} {pc nx tg : Nat}
theorem so_get {ci f N idx : Nat} {C : String} {T : u_T} (hc : vwCl[ci]? = some (C, T, N)) (hin : ∀ w ∈ u_ws C T N, w ∈ ac_gw) (hk : f < N) (hd : decode M.2.2.1 pc = .ok (.getfield idx, 3)) (hw : Cond.fieldLink M.1 idx (T f).1 (T f).2.1 (T f).2.2.1 ∈ ac_gw) (hn : pc + 3 = nx) : ac_So M scr pc (op_get ci f nx) := by
  subst hn
  intro p l e s m args below meth c base D A Q G lv st ah k n h H locs ls hR hS hL
  obtain ⟨-, hx, hb, -, -, hown, hts, -, -, hK, -⟩ := G
  obtain ⟨a, r, rfl, fs, v, h1, h2, h3⟩ := ac_a1v h
  obtain ⟨ws, hP, hD, hin1, -⟩ := ac_fullR hR
  obtain ⟨q0, hq⟩ := hin1 a _ h1
  exact va_get (D := D) hx hb hts hin hown hK.1 hP q0 hq hc f hk (hts _ hw) (fun _ z => z) h2 hd (h3 H locs ls hR hS hL)
theorem so_getN {ci f N idx : Nat} {C host : String} {T : u_T} (hc : vwCl[ci]? = some (C, T, N)) (hin : ∀ w ∈ u_ws C T N, w ∈ ac_gw) (hk : f < N) (hd : decode M.2.2.1 pc = .ok (.getfield idx, 3)) (hw : Cond.fieldLinkNest M.1 idx (T f).1 (T f).2.1 (T f).2.2.1 host ∈ ac_ng) (hn : pc + 3 = nx) : ac_So M scr pc (op_get ci f nx) := by
  subst hn
  intro p l e s m args below meth c base D A Q G lv st ah k n h H locs ls hR hS hL
  obtain ⟨-, hx, hb, -, -, hown, hts, -, -, hK, -⟩ := G
  obtain ⟨a, r, rfl, fs, v, h1, h2, h3⟩ := ac_a1v h
  obtain ⟨ws, hP, hD, hin1, -⟩ := ac_fullR hR
  obtain ⟨q0, hq⟩ := hin1 a _ h1
  exact va_getN (D := D) hx hb hts hin hown hK.1 hP q0 hq hc f hk (va_Nw.use rfl (hK.2.2.2.2.2.1 _ hw)) (fun _ z => z) h2 hd (h3 H locs ls hR hS hL)
theorem so_put {ci f N idx : Nat} {C : String} {T : u_T} {ty : Nat → FieldType} (hc : vwCl[ci]? = some (C, T, N)) (hin : ∀ w ∈ u_ws C T N, w ∈ ac_gw) (hty : ∀ k, k < N → parseFieldDescriptor (T k).2.2.1 = some (ty k)) (hnm : ∀ a, a < N → ∀ b, b < N → a ≠ b → (T a).2.1 ≠ (T b).2.1) (hk : f < N) (hfo : ac_fo (ac_fk ci f) (ty f) = true) (hfin : (T f).2.2.2 = false) (hd : decode M.2.2.1 pc = .ok (.putfield idx, 3)) (hw : Cond.fieldLink M.1 idx (T f).1 (T f).2.1 (T f).2.2.1 ∈ ac_gw) (hn : pc + 3 = nx) : ac_So M scr pc (op_put ci f nx) := by
  subst hn
  intro p l e s m args below meth c base D A Q G lv st ah k n h H locs ls hR hS hL
  obtain ⟨-, hx, hb, -, -, hown, hts, -, -, hK, hbs, -⟩ := G
  match st, h with
  | v :: st, h =>
    obtain ⟨a, r, rfl, fs, h1, h2, h3⟩ := ac_a1v h
    obtain ⟨k1, k2, h4⟩ := ac_kvv hfo h3
    obtain ⟨ws, hP, hD, hin1, -⟩ := ac_fullR hR
    obtain ⟨q0, hq⟩ := hin1 a _ h1
    exact va_put (D := D) hx hb hts hin ty hty hnm hown hK.1 hP hD hS q0 hq hc f hk (hts _ hw) (fun _ z => z) hfin (hty f hk) k1 k2 h2 hd (fun H1 locs1 hP1 hD1 hS1 => h4 H1 locs1 ls (ac_setR (.inl (ci, fs.set f v)) hD hin1 hq (ac_baseS hbs hS1) hP1) hS1 hL)
theorem so_putN {ci f N idx : Nat} {C host : String} {T : u_T} {ty : Nat → FieldType} (hc : vwCl[ci]? = some (C, T, N)) (hin : ∀ w ∈ u_ws C T N, w ∈ ac_gw) (hty : ∀ k, k < N → parseFieldDescriptor (T k).2.2.1 = some (ty k)) (hnm : ∀ a, a < N → ∀ b, b < N → a ≠ b → (T a).2.1 ≠ (T b).2.1) (hk : f < N) (hfo : ac_fo (ac_fk ci f) (ty f) = true) (hfin : (T f).2.2.2 = false) (hd : decode M.2.2.1 pc = .ok (.putfield idx, 3)) (hw : Cond.fieldLinkNest M.1 idx (T f).1 (T f).2.1 (T f).2.2.1 host ∈ ac_ng) (hn : pc + 3 = nx) : ac_So M scr pc (op_put ci f nx) := by
  subst hn
  intro p l e s m args below meth c base D A Q G lv st ah k n h H locs ls hR hS hL
  obtain ⟨-, hx, hb, -, -, hown, hts, -, -, hK, hbs, -⟩ := G
  match st, h with
  | v :: st, h =>
    obtain ⟨a, r, rfl, fs, h1, h2, h3⟩ := ac_a1v h
    obtain ⟨k1, k2, h4⟩ := ac_kvv hfo h3
    obtain ⟨ws, hP, hD, hin1, -⟩ := ac_fullR hR
    obtain ⟨q0, hq⟩ := hin1 a _ h1
    exact va_putN (D := D) hx hb hts hin ty hty hnm hown hK.1 hP hD hS q0 hq hc f hk (va_Nw.use rfl (hK.2.2.2.2.2.1 _ hw)) (fun _ z => z) hfin (hty f hk) k1 k2 h2 hd (fun H1 locs1 hP1 hD1 hS1 => h4 H1 locs1 ls (ac_setR (.inl (ci, fs.set f v)) hD hin1 hq (ac_baseS hbs hS1) hP1) hS1 hL)
theorem so_putF {ci f N idx : Nat} {C : String} {T : u_T} {ty : Nat → FieldType} (hc : vwCl[ci]? = some (C, T, N)) (hin : ∀ w ∈ u_ws C T N, w ∈ ac_gw) (hty : ∀ k, k < N → parseFieldDescriptor (T k).2.2.1 = some (ty k)) (hnm : ∀ a, a < N → ∀ b, b < N → a ≠ b → (T a).2.1 ≠ (T b).2.1) (hk : f < N) (hfo : ac_fo (ac_fk ci f) (ty f) = true) (hfin : (T f).2.2.2 = true) (hin2 : M.2.1 = "<init>") (hdecl : (T f).1 = M.1) (hd : decode M.2.2.1 pc = .ok (.putfield idx, 3)) (hw : Cond.fieldLink M.1 idx (T f).1 (T f).2.1 (T f).2.2.1 ∈ ac_gw) (hn : pc + 3 = nx) : ac_So M scr pc (op_put ci f nx) := by
  subst hn
  intro p l e s m args below meth c base D A Q G lv st ah k n h H locs ls hR hS hL
  obtain ⟨-, hx, hb, -, -, hown, hts, -, -, hK, hbs, hmn, -⟩ := G
  match st, h with
  | v :: st, h =>
    obtain ⟨a, r, rfl, fs, h1, h2, h3⟩ := ac_a1v h
    obtain ⟨k1, k2, h4⟩ := ac_kvv hfo h3
    obtain ⟨ws, hP, hD, hin1, -⟩ := ac_fullR hR
    obtain ⟨q0, hq⟩ := hin1 a _ h1
    exact va_putF (D := D) hx hb hts hin ty hty hnm hown hK.1 hP hD hS q0 hq hc f hk (hts _ hw) (fun _ z => z) hfin (hmn.trans hin2) hdecl (hty f hk) k1 k2 h2 hd (fun H1 locs1 hP1 hD1 hS1 => h4 H1 locs1 ls (ac_setR (.inl (ci, fs.set f v)) hD hin1 hq (ac_baseS hbs hS1) hP1) hS1 hL)
theorem so_iald (hd : decode M.2.2.1 pc = .ok (.iaload, 1)) (hn : pc + 1 = nx) : ac_So M scr pc (op_iald nx) := by
  subst hn
  intro p l e s m args below meth c base D A Q G lv st ah k n h H locs ls hR hS hL
  obtain ⟨-, hx, hb, -, -, hown, hts, -, -, hK, hbs, -⟩ := G
  obtain ⟨ws, hP, hD, hin1, -⟩ := ac_fullR hR
  obtain ⟨i, r1, rfl, g1⟩ := ac_i1v h
  obtain ⟨a, r, rfl, z, f, h1, h2, h3⟩ := ac_a1v g1
  obtain ⟨q0, hq⟩ := hin1 a _ h1
  exact va_iald (D := D) hx hb hK.1 hP q0 0 hq rfl h2 hd (h3 H locs ls hR hS hL)
theorem so_zald (hd : decode M.2.2.1 pc = .ok (.baload, 1)) (hn : pc + 1 = nx) : ac_So M scr pc (op_zald nx) := by
  subst hn
  intro p l e s m args below meth c base D A Q G lv st ah k n h H locs ls hR hS hL
  obtain ⟨-, hx, hb, -, -, hown, hts, -, -, hK, hbs, -⟩ := G
  obtain ⟨ws, hP, hD, hin1, -⟩ := ac_fullR hR
  obtain ⟨i, r1, rfl, g1⟩ := ac_i1v h
  obtain ⟨a, r, rfl, z, f, h1, h2, h3⟩ := ac_a1v g1
  obtain ⟨q0, hq⟩ := hin1 a _ h1
  exact va_zald (D := D) hx hb hK.1 hP q0 1 hq rfl h2 hd (h3 H locs ls hR hS hL)
theorem so_lald (hd : decode M.2.2.1 pc = .ok (.laload, 1)) (hn : pc + 1 = nx) : ac_So M scr pc (op_lald nx) := by
  subst hn
  intro p l e s m args below meth c base D A Q G lv st ah k n h H locs ls hR hS hL
  obtain ⟨-, hx, hb, -, -, hown, hts, -, -, hK, hbs, -⟩ := G
  obtain ⟨ws, hP, hD, hin1, -⟩ := ac_fullR hR
  obtain ⟨i, r1, rfl, g1⟩ := ac_i1v h
  obtain ⟨a, r, rfl, z, f, h1, h2, h3⟩ := ac_a1v g1
  obtain ⟨q0, hq⟩ := hin1 a _ h1
  exact va_lald (D := D) hx hb hK.1 hP q0 2 hq rfl h2 hd (h3 H locs ls hR hS hL)
theorem so_iast (hd : decode M.2.2.1 pc = .ok (.iastore, 1)) (hn : pc + 1 = nx) : ac_So M scr pc (op_iast nx) := by
  subst hn
  intro p l e s m args below meth c base D A Q G lv st ah k n h H locs ls hR hS hL
  obtain ⟨-, hx, hb, -, -, hown, hts, -, -, hK, hbs, -⟩ := G
  obtain ⟨ws, hP, hD, hin1, -⟩ := ac_fullR hR
  obtain ⟨x, r1, rfl, g1⟩ := ac_i1v h
  obtain ⟨i, r2, rfl, g2⟩ := ac_i1v g1
  obtain ⟨a, r, rfl, z, f, h1, h2, h3⟩ := ac_a1v g2
  obtain ⟨q0, hq⟩ := hin1 a _ h1
  exact va_iast (D := D) hx hb hK.1 hP hD hS q0 0 hq rfl h2 hd (fun H1 locs1 hP1 hD1 hS1 => h3 H1 locs1 ls (ac_setR (.inr (0, z, .inl (upd f i.toNatClampNeg x))) hD hin1 hq (ac_baseS hbs hS1) hP1) hS1 hL)
theorem so_last (hd : decode M.2.2.1 pc = .ok (.lastore, 1)) (hn : pc + 1 = nx) : ac_So M scr pc (op_last nx) := by
  subst hn
  intro p l e s m args below meth c base D A Q G lv st ah k n h H locs ls hR hS hL
  obtain ⟨-, hx, hb, -, -, hown, hts, -, -, hK, hbs, -⟩ := G
  obtain ⟨ws, hP, hD, hin1, -⟩ := ac_fullR hR
  obtain ⟨x, r1, rfl, g1⟩ := ac_l1v h
  obtain ⟨i, r2, rfl, g2⟩ := ac_i1v g1
  obtain ⟨a, r, rfl, z, f, h1, h2, h3⟩ := ac_a1v g2
  obtain ⟨q0, hq⟩ := hin1 a _ h1
  exact va_last (D := D) hx hb hK.1 hP hD hS q0 2 hq rfl h2 hd (fun H1 locs1 hP1 hD1 hS1 => h3 H1 locs1 ls (ac_setR (.inr (2, z, .inr (.inl (vp_updL f i.toNatClampNeg x)))) hD hin1 hq (ac_baseS hbs hS1) hP1) hS1 hL)
theorem so_zast (hd : decode M.2.2.1 pc = .ok (.bastore, 1)) (hn : pc + 1 = nx) : ac_So M scr pc (op_zast nx) := by
  subst hn
  intro p l e s m args below meth c base D A Q G lv st ah k n h H locs ls hR hS hL
  obtain ⟨-, hx, hb, -, -, hown, hts, -, -, hK, hbs, -⟩ := G
  obtain ⟨ws, hP, hD, hin1, -⟩ := ac_fullR hR
  obtain ⟨x, r1, rfl, g1⟩ := ac_i1v h
  obtain ⟨i, r2, rfl, g2⟩ := ac_i1v g1
  obtain ⟨a, r, rfl, z, f, h1, h2, hx01, h3⟩ := ac_a1v g2
  obtain ⟨q0, hq⟩ := hin1 a _ h1
  have hnar : vp_nar .boolean x = x := by rcases hx01 with rfl | rfl <;> decide +kernel
  refine va_zast (D := D) hx hb hK.1 hP hD hS q0 1 hq rfl h2 hd (fun H1 locs1 hP1 hD1 hS1 => ?_)
  rw [hnar] at hP1
  exact h3 H1 locs1 ls (ac_setR (.inr (1, z, .inl (upd f i.toNatClampNeg x))) hD hin1 hq (ac_baseS hbs hS1) hP1) hS1 hL
theorem ac_emA {A : Nat → ClassId} {t z : Nat} {f : ac_C} : ∃ y : ((Nat → Int32) ⊕ (Nat → Int64) ⊕ (Nat → UInt32) ⊕ (Nat → UInt64) ⊕ (Nat → Option Nat)), ac_em A (.inr (t, z, f)) = .inl (A t, z, y) := by
  match f with
  | .inl f => exact ⟨_, rfl⟩
  | .inr (.inl f) => exact ⟨_, rfl⟩
  | .inr (.inr f) => exact ⟨_, rfl⟩
theorem so_alen {t : Nat} {ty : FieldType} (ht : ∀ A : Nat → ClassId, (ac_tys A)[t]? = some (A t, ty)) (hd : decode M.2.2.1 pc = .ok (.arraylength, 1)) (hn : pc + 1 = nx) : ac_So M scr pc (op_alen t nx) := by
  subst hn
  intro p l e s m args below meth c base D A Q G lv st ah k n h H locs ls hR hS hL
  obtain ⟨-, hx, hb, -, -, hown, hts, -, -, hK, hbs, -⟩ := G
  obtain ⟨ws, hP, hD, hin1, -⟩ := ac_fullR hR
  obtain ⟨a, r, rfl, z, f, h1, h3⟩ := ac_a1v h
  obtain ⟨q0, hq⟩ := hin1 a _ h1
  obtain ⟨y, hy⟩ := ac_emA (A := A) (t := t) (z := z) (f := f)
  rw [hy] at hq
  exact va_alen (D := D) hx hb hK.1 hP q0 t hq (ht A) rfl hd (h3 H locs ls hR hS hL)
theorem so_sld (hd : decode M.2.2.1 pc = .ok (.iaload, 1)) (hn : pc + 1 = nx) : ac_So M scr pc (op_sld scr nx) := by
  subst hn
  intro p l e s m args below meth c base D A Q G lv st ah k n h H locs ls hR hS hL
  obtain ⟨-, hx, hb, -, -, hown, hts, -, -, hK, hbs, -, hsc⟩ := G
  obtain ⟨i, r1, rfl, g1⟩ := ac_i1v h
  obtain ⟨a, r, rfl, z, f, h1, h2, h3⟩ := ac_a1v g1
  obtain ⟨q1, q2⟩ := hsc a z f h1
  exact va_sld hx hb q2 (Nat.lt_of_lt_of_le q1 hbs) (fun z => absurd z (Nat.not_le.mpr q1)) hS h2 hd (h3 H locs ls hR hS hL)
theorem so_slen (hd : decode M.2.2.1 pc = .ok (.arraylength, 1)) (hn : pc + 1 = nx) : ac_So M scr pc (op_slen scr nx) := by
  subst hn
  intro p l e s m args below meth c base D A Q G lv st ah k n h H locs ls hR hS hL
  obtain ⟨-, hx, hb, -, -, hown, hts, -, -, hK, hbs, -, hsc⟩ := G
  obtain ⟨a, r, rfl, z, f, h1, h3⟩ := ac_a1v h
  obtain ⟨q1, q2⟩ := hsc a z f h1
  exact va_slen hx hb q2 (Nat.lt_of_lt_of_le q1 hbs) (fun z => absurd z (Nat.not_le.mpr q1)) hS hd (h3 H locs ls hR hS hL)
theorem so_aald3 (hd : decode M.2.2.1 pc = .ok (.aaload, 1)) (hn : pc + 1 = nx) : ac_So M scr pc (op_aald 3 nx) := by
  subst hn
  intro p l e s m args below meth c base D A Q G lv st ah k n h H locs ls hR hS hL
  obtain ⟨-, hx, hb, -, -, hown, hts, -, -, hK, hbs, -⟩ := G
  obtain ⟨ws, hP, hD, hin1, -⟩ := ac_fullR hR
  obtain ⟨i, r1, rfl, g1⟩ := ac_i1v h
  obtain ⟨a, r, rfl, z, f, h1, h2, h3, h4⟩ := ac_a1v g1
  obtain ⟨q0, hq⟩ := hin1 a _ h1
  refine va_aldq (D := D) hx hb hK.1 hP q0 3 hq rfl h2 hd ?_
  cases hf : f i.toNatClampNeg with
  | none => exact h3 hf H locs ls hR hS hL
  | some q => exact h4 q hf H locs ls hR hS hL
theorem so_aald4 (hd : decode M.2.2.1 pc = .ok (.aaload, 1)) (hn : pc + 1 = nx) : ac_So M scr pc (op_aald 4 nx) := by
  subst hn
  intro p l e s m args below meth c base D A Q G lv st ah k n h H locs ls hR hS hL
  obtain ⟨-, hx, hb, -, -, hown, hts, -, -, hK, hbs, -⟩ := G
  obtain ⟨ws, hP, hD, hin1, -⟩ := ac_fullR hR
  obtain ⟨i, r1, rfl, g1⟩ := ac_i1v h
  obtain ⟨a, r, rfl, z, f, h1, h2, h3, h4⟩ := ac_a1v g1
  obtain ⟨q0, hq⟩ := hin1 a _ h1
  have hlt : i.toNatClampNeg < z := Nat.not_le.mp fun q => h2 (Or.inr q)
  refine W.aald (v := va_rf (f i.toNatClampNeg)) (ty := .array .int) hx hb (hP q0 _ hq) ((hK.1.2 4 _ rfl).1 z (fun j => va_rf (f j))) rfl (fun q => by cases q) (by show ¬ (i < 0 ∨ (arrV _ _ _).slots.size ≤ _); rw [arrV_size]; exact h2) (by show (arrV _ _ _).slots[_]? = _; rw [arrV_read _ _ hlt]) rfl rfl hd ?_
  cases hf : f i.toNatClampNeg with
  | none => exact h3 hf H locs ls hR hS hL
  | some q => exact h4 q hf H locs ls hR hS hL
theorem ac_itemv {ci : Nat} {X : Prop} (h : ac_item ci X) : (∃ r : vw_C, vwCl[ci]? = some r ∧ (r.1 = RX0 ∨ r.1 = RX2 ∨ r.1 = RX3 ∨ r.1 = RX4)) ∧ X := by
  match ci, h with
  | 4, h => exact ⟨⟨_, rfl, Or.inl rfl⟩, h⟩
  | 5, h => exact ⟨⟨_, rfl, Or.inr (Or.inl rfl)⟩, h⟩
  | 6, h => exact ⟨⟨_, rfl, Or.inr (Or.inr (Or.inl rfl))⟩, h⟩
  | 7, h => exact ⟨⟨_, rfl, Or.inr (Or.inr (Or.inr rfl))⟩, h⟩
theorem ac_caI : ∀ C ∈ [RX0, RX2, RX3, RX4], Cond.castable C "TypedHall$Item" ∈ ac_ng := by decide +kernel
theorem so_aast3 (hd : decode M.2.2.1 pc = .ok (.aastore, 1)) (hn : pc + 1 = nx) : ac_So M scr pc (op_aast 3 nx) := by
  subst hn
  intro p l e s m args below meth c base D A Q G lv st ah k n h H locs ls hR hS hL
  obtain ⟨-, hx, hb, -, -, hown, hts, -, -, hK, hbs, -⟩ := G
  obtain ⟨ws, hP, hD, hin1, -⟩ := ac_fullR hR
  rcases ac_n1v h with ⟨r0, rfl, g0⟩ | ⟨v, r0, rfl, g0⟩
  · obtain ⟨i, r1, rfl, g1⟩ := ac_i1v g0
    obtain ⟨a, r, rfl, z, f, h1, h2, h3⟩ := ac_a1v g1
    obtain ⟨q0, hq⟩ := hin1 a _ h1
    exact va_astqN (D := D) hx hb hK.1 hP hD hS q0 3 hq rfl h2 hd (fun H1 locs1 hP1 hD1 hS1 => h3 H1 locs1 ls (ac_setR (.inr (3, z, .inr (.inr (va_up f i.toNatClampNeg none)))) hD hin1 hq (ac_baseS hbs hS1) hP1) hS1 hL)
  · obtain ⟨i, r1, rfl, g1⟩ := ac_i1v g0
    obtain ⟨a, r, rfl, -, z, f, ci, fs, h1, h1v, h2⟩ := ac_a1v g1
    obtain ⟨⟨rc, hrc, hrn⟩, h2, h3⟩ := ac_itemv h2
    obtain ⟨q0, hq⟩ := hin1 a _ h1
    obtain ⟨qk, hqk⟩ := hin1 v _ h1v
    have hca : va_Nw (.castable rc.1 "TypedHall$Item") s := hK.2.2.2.2.2.1 _ (ac_caI rc.1 (by rcases hrn with q | q | q | q <;> rw [q] <;> simp))
    exact va_astqO (D := D) hx hb hK.1 hP hD hS q0 3 qk ci hq rfl hca hqk hrc h2 hd (fun H1 locs1 hP1 hD1 hS1 => h3 H1 locs1 ls (ac_setR (.inr (3, z, .inr (.inr (va_up f i.toNatClampNeg (some v))))) hD hin1 hq (ac_baseS hbs hS1) hP1) hS1 hL)
end ACH
section ACN
variable {p : Program} {l : Launch} {e : Env} {R : Room} {s : State} {m : MethodId} {args : Array Value} {below : List Frame} {meth : Method} {c : Code} {H : Heap} {locs : List Loc} {cells slots : Nat} {Q : State → Prop} {cc : ByteArray}
theorem ac_aastN0 {T : State} (X : Stand p l e R s m args below meth c T locs cells slots) (hexec : p.tables.exec = Jvm.exec) {a : Addr} {cell : Cell} {j : Int32} (hcell : T.heap[a]? = some cell) (harr : s.isArrayOf cell (.array .int)) (hknown : cell.vm ≠ .unknown)
    (hin : ¬ (j < 0 ∨ cell.slots.size ≤ j.toNatClampNeg))
    {g : JFrame} (hg : g.method = m) {rest : List Value} (hstack : g.stack = .null :: .int j :: .ref a :: rest) (hdg : decode c.code g.pc = .ok (.aastore, 1)) :
    Stand p l e R s m args below meth c (T.setCell a (cell.setSlot j.toNatClampNeg .null)) (locs ++ [⟨a, j.toNatClampNeg⟩]) cells slots ∧
      ∀ target, Steps p.tables e below ((T.setCell a (cell.setSlot j.toNatClampNeg .null)).setTop { g with pc := g.pc + 1, stack := rest }) target → Steps p.tables e below (T.setTop g) target := by
  have hT := State.isArrayOf_alike X.warmed.alike harr
  have hfit : T.fitsSlot cell.cls cell.vm j.toNatClampNeg .null = true := by
    obtain ⟨hobj, k, hk, comp, hkind⟩ := hT
    cases hvm : cell.vm <;> first | exact absurd hvm (hobj _) | simp [State.fitsSlot, State.slotType?, hk, hkind, fits]
  refine ⟨X.stored hcell _ _, fun target hrest => ?_⟩
  subst hg
  jvm_step X.here [hexec, hdg]
  refine aastore.wp_of_null (c := cell) (t := .array .int) X.here.top hstack hcell hT hin hknown (Nat.not_le.mp fun q => hin (Or.inr q)) hfit ?_
  intro acts
  rw [afterInstr_ok]
  exact hrest
theorem ac_WaastN (hexec : p.tables.exec = Jvm.exec) (hb : c.code = cc) {a : Addr} {cell : Cell} {j : Int32} (hcell : H[a]? = some cell) (harr : s.isArrayOf cell (.array .int)) (hknown : cell.vm ≠ .unknown) (hin : ¬ (j < 0 ∨ cell.slots.size ≤ j.toNatClampNeg))
    {g : JFrame} (hg : g.method = m) {rest : List Value} (hstack : g.stack = .null :: .int j :: .ref a :: rest) (hdg : decode cc g.pc = .ok (.aastore, 1))
    (kk : ∀ H' : Heap, H'[a]? = some (cell.setSlot j.toNatClampNeg .null) → H'.size = H.size → (∀ q, q ≠ a → H'[q]? = H[q]?) → W p l e R s m args below meth c H' (locs ++ [⟨a, j.toNatClampNeg⟩]) cells slots Q { g with pc := g.pc + 1, stack := rest }) :
    W p l e R s m args below meth c H locs cells slots Q g := by
  intro T hT X
  have hT' : T.heap[a]? = some cell := by rw [hT]; exact hcell
  obtain ⟨X', st⟩ := ac_aastN0 X hexec hT' harr hknown hin hg hstack (by rw [hb]; exact hdg)
  have hlt : a < T.heap.size := (Array.getElem?_eq_some_iff.mp hT').1
  obtain ⟨t', a1, b1⟩ := kk _ (heapAt_setCell_self _ hlt) (by rw [size_setCell, hT]) (fun q hq => by rw [heapAt_setCell_ne _ (Ne.symm hq), hT]) (T.setCell a (cell.setSlot j.toNatClampNeg .null)) rfl X'
  exact ⟨t', st t' a1, b1⟩
end ACN
section ACH
variable {M : ac_D} {scr : Nat → Nat → (Nat → Int32) → Prop} {pc nx tg : Nat}
theorem so_aast4 (hd : decode M.2.2.1 pc = .ok (.aastore, 1)) (hn : pc + 1 = nx) : ac_So M scr pc (op_aast 4 nx) := by
  subst hn
  intro p l e s m args below meth c base D A Q G lv st ah k n h H locs ls hR hS hL
  obtain ⟨-, hx, hb, -, -, hown, hts, -, -, hK, hbs, -⟩ := G
  obtain ⟨ws, hP, hD, hin1, -⟩ := ac_fullR hR
  rcases ac_n1v h with ⟨r0, rfl, g0⟩ | ⟨v, r0, rfl, g0⟩
  · obtain ⟨i, r1, rfl, g1⟩ := ac_i1v g0
    obtain ⟨a, r, rfl, z, f, h1, h2, h3⟩ := ac_a1v g1
    obtain ⟨q0, hq⟩ := hin1 a _ h1
    refine ac_WaastN hx hb (hP q0 _ hq) ((hK.1.2 4 _ rfl).1 z (fun j => va_rf (f j))) (fun h => by cases h) (by show ¬ (i < 0 ∨ (arrV _ _ _).slots.size ≤ _); rw [arrV_size]; exact h2) rfl rfl hd fun H1 e zz oq => ?_
    have hS1 := hS.put (k := i.toNatClampNeg) zz oq (hD.2 q0 _ hq)
    refine h3 H1 _ ls (ac_setR (.inr (4, z, .inr (.inr (va_up f i.toNatClampNeg none)))) hD hin1 hq (ac_baseS hbs hS1) (hP.set hD hq ?_ oq)) hS1 hL
    show H1[a]? = some (vp_cell _ _)
    rw [e]
    show some ((vp_cell (A 4) (z, .inr (.inr (.inr (.inr f))))).setSlot _ _) = _
    rw [vp_cell_q, vp_cell_q, arrV_store]
    congr 2
    funext q
    by_cases hq : q = i.toNatClampNeg
    · subst hq
      simp [updV, va_up, va_rf]
    · simp [updV, va_up, hq]
  · obtain ⟨i, r1, rfl, g1⟩ := ac_i1v g0
    obtain ⟨a, r, rfl, h4, -⟩ := ac_a1v g1
    cases h4
end ACH
end
section
/-! ===== new cells; questions on classes; returns ===== -/
theorem ac_newR {base : Nat} {D : va_G} {A : Nat → ClassId} {ah : ac_H} {H0 H H1 : Heap} {locs : List Loc} (e' : ac_E) (hR : ac_Rep base D A ah H) (hbs : base ≤ H0.size) (hS : va_S (ac_B base) H0 H locs) (hz : H1.size = H.size + 1) (ho : ∀ q : Nat, q < H.size → H1[q]? = H[q]?) (he : va_at D vwCl (H.size, ac_em A e') H1) : ah H.size = none ∧ ac_Rep base D A (ac_hs ah H.size e') H1 ∧ va_S (ac_B base) H0 H1 locs := by
  have hlt : ∀ (a : Nat) (e : ac_E), ah a = some e → a < H.size := fun a e h => (hR.2 a e h).2.lt
  refine ⟨?_, ⟨by have := hR.1; omega, fun b e hb => ?_⟩, ⟨by have := hS.1; omega, fun q h1 h2 => (ho q (Nat.lt_of_lt_of_le h1 hS.1)).trans (hS.2.1 q h1 h2), hS.2.2⟩⟩
  · cases hc : ah H.size with
    | none => rfl
    | some e => exact absurd (hlt _ _ hc) (Nat.lt_irrefl _)
  · unfold ac_hs at hb
    by_cases q : b = H.size
    · subst q
      rw [if_pos rfl] at hb
      cases hb
      exact ⟨hR.1, he⟩
    · rw [if_neg q] at hb
      exact ⟨(hR.2 b e hb).1, (hR.2 b e hb).2.kept (ho b (hlt b e hb))⟩
section ACW
variable {M : ac_D} {scr : Nat → Nat → (Nat → Int32) → Prop} {pc nx tg : Nat}
theorem so_newa {t : Nat} {at1 : ArrayType} {ty : FieldType} (ht : ∀ A : Nat → ClassId, (ac_tys A)[t]? = some (A t, ty)) (hty : newarray.typeOf at1 = ty) (hra : ∀ (U : State) (cA : ClassId), va_RA U cA ty → U.vm.findClass ("[" ++ ty.toString) = some cA) (hz : ∀ (D : va_G) (A : Nat → ClassId) (N q : Nat) (H1 : Heap), H1[q]? = some (arrV (A t) N (fun _ => defaultValue ty)) → va_at D vwCl (q, ac_em A (.inr (t, N, ac_zero t))) H1) (hcb : componentBytes ty ≤ 8) (hw : Cond.arrayClass ty ∈ ac_gw) (hd : decode M.2.2.1 pc = .ok (.newarray at1, 2)) (hn : pc + 2 = nx) : ac_So M scr pc (op_newa M.2.2.2.2.2.2 t nx) := by
  subst hn
  subst hty
  intro p l e s m args below meth c base D A Q G lv st ah k n h H locs ls hR hS hL
  obtain ⟨-, hx, hb, -, -, hown, hts, -, -, hK, hbs, -⟩ := G
  obtain ⟨mm, r, rfl, h0, w, h1, h2, h3, h4, h5⟩ := ac_i1v h
  refine va_newaK hx hb (hts _ hw) rfl hd rfl h0 rfl ?_ h3 (by omega) rfl (fun H1 cA e1 e2 e3 e4 e5 => ?_)
  · have : mm.toNatClampNeg * componentBytes (newarray.typeOf at1) ≤ 65536 * 8 := Nat.mul_le_mul (by omega) hcb
    omega
  · have ecA : cA = A t := Option.some.inj (e5.symm.trans (hra s (A t) (hK.1.2 t _ (ht A)).2))
    subst ecA
    obtain ⟨q1, q2, q3⟩ := ac_newR (.inr (t, mm.toNatClampNeg, ac_zero t)) hR hbs hS e2 e3 (hz D A _ _ _ e1)
    refine W.widen (k := k + 1) (n := n + w) (Nat.le_refl _) (by omega) ?_
    exact h5 H.size q1 H1 locs ls q2 q3 hL
theorem ac_ra_int (U : State) (cA : ClassId) (h : va_RA U cA .int) : U.vm.findClass ("[" ++ FieldType.int.toString) = some cA := h
theorem ac_ra_long (U : State) (cA : ClassId) (h : va_RA U cA .long) : U.vm.findClass ("[" ++ FieldType.long.toString) = some cA := h
theorem ac_ra_bool (U : State) (cA : ClassId) (h : va_RA U cA .boolean) : U.vm.findClass ("[" ++ FieldType.boolean.toString) = some cA := h
theorem so_newI (hw : Cond.arrayClass .int ∈ ac_gw) (hd : decode M.2.2.1 pc = .ok (.newarray .int, 2)) (hn : pc + 2 = nx) : ac_So M scr pc (op_newa M.2.2.2.2.2.2 0 nx) := so_newa (ty := .int) (fun _ => rfl) rfl ac_ra_int (fun _ _ _ _ _ h => h) (by decide) hw hd hn
theorem so_newZ (hw : Cond.arrayClass .boolean ∈ ac_gw) (hd : decode M.2.2.1 pc = .ok (.newarray .boolean, 2)) (hn : pc + 2 = nx) : ac_So M scr pc (op_newa M.2.2.2.2.2.2 1 nx) := so_newa (ty := .boolean) (fun _ => rfl) rfl ac_ra_bool (fun _ _ _ _ _ h => h) (by decide) hw hd hn
theorem so_newJ (hw : Cond.arrayClass .long ∈ ac_gw) (hd : decode M.2.2.1 pc = .ok (.newarray .long, 2)) (hn : pc + 2 = nx) : ac_So M scr pc (op_newa M.2.2.2.2.2.2 2 nx) := so_newa (ty := .long) (fun _ => rfl) rfl ac_ra_long (fun _ _ _ _ _ h => h) (by decide) hw hd hn
theorem so_newq {idx : Nat} (hd : decode M.2.2.1 pc = .ok (.anewarray idx, 3)) (hw : Cond.classLink M.1 idx "TypedHall$Item" ∈ ac_gw) (hn : pc + 3 = nx) : ac_So M scr pc (op_newa M.2.2.2.2.2.2 3 nx) := by
  subst hn
  intro p l e s m args below meth c base D A Q G lv st ah k n h H locs ls hR hS hL
  obtain ⟨-, hx, hb, -, -, hown, hts, -, -, hK, hbs, -⟩ := G
  obtain ⟨mm, r, rfl, h0, w, h1, h2, h3, h4, h5⟩ := ac_i1v h
  obtain ⟨ws, hP, hD, hin1, -⟩ := ac_fullR hR
  refine va_newq (D := D) hx hb hown (hts _ hw) hK.2.2.2.2.2.2.1 hK.1 hP hD hS (ac_newA hbs) h0 rfl (by omega) h3 (by omega) hd (fun q cA H1 hK1 hP1 hD1 hS1 => ?_)
  obtain ⟨kA, comp, -, -, -, e1⟩ := (hK1.2 5 (cA, .object "TypedHall$Item") rfl).2
  obtain ⟨kA2, comp2, -, -, -, e2⟩ := (hK.1.2 3 _ rfl).2
  have ecA : cA = A 3 := Option.some.inj (e1.symm.trans e2)
  subst ecA
  obtain ⟨q1, q2⟩ := ac_appR (.inr (3, mm.toNatClampNeg, ac_zero 3)) hin1 (ac_baseS hbs hS1) hD1 hP1
  refine W.widen (k := k + 1) (n := n + w) (Nat.le_refl _) (by omega) ?_
  exact h5 q q1 H1 locs ls q2 hS1 hL
theorem so_new {ci N idx : Nat} {C : String} {T : u_T} {ty : Nat → FieldType} (hc : vwCl[ci]? = some (C, T, N)) (hin : ∀ w ∈ u_ws C T N, w ∈ ac_gw) (hty : ∀ k, k < N → parseFieldDescriptor (T k).2.2.1 = some (ty k)) (hfs : ∀ j, j < N → defaultValue (ty j) = vp_V (ac_fr ci) j) (hnf : ac_nf ci = N) (hd : decode M.2.2.1 pc = .ok (.new idx, 3)) (hw : Cond.classLink M.1 idx C ∈ ac_gw) (hw2 : Cond.instantiable C N ∈ ac_gw) (hw3 : Cond.initialized C ∈ ac_gw) (hn : pc + 3 = nx) : ac_So M scr pc (op_new M.2.2.2.2.2.2 ci nx) := by
  subst hn
  intro p l e s m args below meth c base D A Q G lv st ah k n h H locs ls hR hS hL
  obtain ⟨-, hx, hb, -, -, hown, hts, -, -, hK, hbs, -⟩ := G
  obtain ⟨h3, h4, h5⟩ := h
  rw [hnf] at h4 h5
  obtain ⟨ws, hP, hD, hin1, -⟩ := ac_fullR hR
  refine va_new (D := D) hx hb hts hin ty hty hown (hts _ hw) (hts _ hw2) (hts _ hw3) hK.1 hP hD hS (ac_newA hbs) hc hfs h3 h4 hd (fun q H1 hP1 hD1 hS1 => ?_)
  obtain ⟨q1, q2⟩ := ac_appR (.inl (ci, ac_fr ci)) hin1 (ac_baseS hbs hS1) hD1 hP1
  exact h5 q q1 H1 locs ls q2 hS1 hL
theorem ac_itNc {cj ci : Nat} {r r2 : vw_C} (hj : cj = 4 ∨ cj = 5 ∨ cj = 6 ∨ cj = 7) (hi : ci = 4 ∨ ci = 5 ∨ ci = 6) (hne : cj ≠ ci) (h1 : vwCl[cj]? = some r) (h2 : vwCl[ci]? = some r2) : (r.1, r2.1) ∈ ac_nc := by
  rcases hj with rfl | rfl | rfl | rfl <;> rcases hi with rfl | rfl | rfl <;> first | exact absurd rfl hne | (cases h1; cases h2; decide +kernel)
theorem ac_item4 {ci : Nat} {X : Prop} (h : ac_item ci X) : (ci = 4 ∨ ci = 5 ∨ ci = 6 ∨ ci = 7) ∧ X := by
  match ci, h with
  | 4, h => exact ⟨Or.inl rfl, h⟩
  | 5, h => exact ⟨Or.inr (Or.inl rfl), h⟩
  | 6, h => exact ⟨Or.inr (Or.inr (Or.inl rfl)), h⟩
  | 7, h => exact ⟨Or.inr (Or.inr (Or.inr rfl)), h⟩
theorem so_inst {ci idx : Nat} {r2 : vw_C} (hi : ci = 4 ∨ ci = 5 ∨ ci = 6) (hc : vwCl[ci]? = some r2) (hd : decode M.2.2.1 pc = .ok (.instanceof idx, 3)) (hw : Cond.classLink M.1 idx r2.1 ∈ ac_gw) (hn : pc + 3 = nx) : ac_So M scr pc (op_inst ci nx) := by
  subst hn
  intro p l e s m args below meth c base D A Q G lv st ah k n h H locs ls hR hS hL
  obtain ⟨-, hx, hb, -, -, hown, hts, -, -, hK, hbs, -⟩ := G
  rcases ac_n1v h with ⟨r, rfl, h⟩ | ⟨a, r, rfl, cj, fs, h1, h2⟩
  · exact lv_instN hx hb hd (h H locs ls hR hS hL)
  · obtain ⟨ws, hP, hD, hin1, -⟩ := ac_fullR hR
    obtain ⟨q0, hq⟩ := hin1 a _ h1
    obtain ⟨⟨rc, hrc, -⟩, -⟩ := ac_itemv h2
    obtain ⟨hj, h3⟩ := ac_item4 h2
    have hrv := va_recv (D := D) hK.1 hP hrc hq
    by_cases hne : cj = ci
    · subst hne
      cases Option.some.inj (hrc.symm.trans hc)
      have h4 : cond (Nat.beq cj cj) _ _ := h3
      rw [Nat.beq_refl] at h4
      exact va_instS hx hb hown (hts _ hw) (hK.1.1 cj _ hc).2 hrv hd (h4 H locs ls hR hS hL)
    · have h4 : cond (Nat.beq cj ci) _ _ := h3
      have hbq : Nat.beq cj ci = false := by
        cases hz : Nat.beq cj ci with
        | false => rfl
        | true => exact absurd (Nat.eq_of_beq_eq_true hz) hne
      rw [hbq] at h4
      exact va_instNo hx hb hown (hts _ hw) (hK.2.2.2.2.1 _ (ac_itNc hj hi hne hrc hc)) hrv hd (h4 H locs ls hR hS hL)
theorem so_cast {ci idx : Nat} {r2 : vw_C} (hc : vwCl[ci]? = some r2) (hd : decode M.2.2.1 pc = .ok (.checkcast idx, 3)) (hw : Cond.classLink M.1 idx r2.1 ∈ ac_gw) (hn : pc + 3 = nx) : ac_So M scr pc (op_cast ci nx) := by
  subst hn
  intro p l e s m args below meth c base D A Q G lv st ah k n h H locs ls hR hS hL
  obtain ⟨-, hx, hb, -, -, hown, hts, -, -, hK, hbs, -⟩ := G
  rcases ac_n1v h with ⟨r, rfl, h⟩ | ⟨a, r, rfl, fs, h1, h2⟩
  · exact lv_castN hx hb hd (h H locs ls hR hS hL)
  · obtain ⟨ws, hP, hD, hin1, -⟩ := ac_fullR hR
    obtain ⟨q0, hq⟩ := hin1 a _ h1
    exact va_castS hx hb hown (hts _ hw) (hK.1.1 ci _ hc).2 (va_recv (D := D) hK.1 hP hc hq) hd (h2 H locs ls hR hS hL)
-- returns
theorem so_ireturn (hret : M.2.2.2.2.1 = some .int) (hd : decode M.2.2.1 pc = .ok (.ireturn, 1)) : ac_So M scr pc (op_ireturn M.2.2.2.2.2.2) := by
  intro p l e s m args below meth c base D A Q G lv st ah k n h H locs ls hR hS hL
  obtain ⟨-, hx, hb, -, hr, -, -, hlk, -⟩ := G
  obtain ⟨x, r, rfl, rfl, h1, h2, h3⟩ := ac_i1v h
  refine vx_ret (W.widen h2 h3 ?_)
  exact W.iret hx hb (hr.trans hret) (fun t ht hW => ⟨_, ah, rfl, h1, by rw [ht]; exact hR, hS.F ht⟩) hS.2.2 hd hlk
theorem so_zreturn (hret : M.2.2.2.2.1 = some .boolean) (hd : decode M.2.2.1 pc = .ok (.ireturn, 1)) : ac_So M scr pc (op_zreturn M.2.2.2.2.2.2) := by
  intro p l e s m args below meth c base D A Q G lv st ah k n h H locs ls hR hS hL
  obtain ⟨-, hx, hb, -, hr, -, -, hlk, -⟩ := G
  obtain ⟨x, r, rfl, rfl, h01, h1, h2, h3⟩ := ac_i1v h
  refine vx_ret (W.widen h2 h3 ?_)
  exact W.zret hx hb (hr.trans hret) (by rcases h01 with rfl | rfl <;> decide +kernel) (fun t ht hW => ⟨_, ah, rfl, h1, by rw [ht]; exact hR, hS.F ht⟩) hS.2.2 hd hlk
theorem so_lreturn (hret : M.2.2.2.2.1 = some .long) (hd : decode M.2.2.1 pc = .ok (.lreturn, 1)) : ac_So M scr pc (op_lreturn M.2.2.2.2.2.2) := by
  intro p l e s m args below meth c base D A Q G lv st ah k n h H locs ls hR hS hL
  obtain ⟨-, hx, hb, -, hr, -, -, hlk, -⟩ := G
  obtain ⟨x, r, rfl, rfl, h1, h2, h3⟩ := ac_l1v h
  refine vx_ret (W.widen h2 h3 ?_)
  exact W.lret hx hb (hr.trans hret) (fun t ht hW => ⟨_, ah, rfl, h1, by rw [ht]; exact hR, hS.F ht⟩) hS.2.2 hd hlk
theorem so_areturn {rt : FieldType} (hret : M.2.2.2.2.1 = some rt) (hrt : (∃ n, rt = .object n) ∨ ∃ t, rt = .array t) (hd : decode M.2.2.1 pc = .ok (.areturn, 1)) : ac_So M scr pc (op_areturn M.2.2.2.2.2.2) := by
  intro p l e s m args below meth c base D A Q G lv st ah k n h H locs ls hR hS hL
  obtain ⟨-, hx, hb, -, hr, -, -, hlk, -⟩ := G
  rcases ac_n1v h with ⟨r, rfl, rfl, h1, h2, h3⟩ | ⟨x, r, rfl, rfl, h1, h2, h3⟩
  · refine vx_ret (W.widen h2 h3 ?_)
    exact W.aret hx hb (hr.trans hret) hrt (Or.inl rfl) (fun t ht hW => ⟨_, ah, rfl, h1, by rw [ht]; exact hR, hS.F ht⟩) hS.2.2 hd hlk
  · refine vx_ret (W.widen h2 h3 ?_)
    exact W.aret hx hb (hr.trans hret) hrt (Or.inr ⟨x, rfl⟩) (fun t ht hW => ⟨_, ah, rfl, h1, by rw [ht]; exact hR, hS.F ht⟩) hS.2.2 hd hlk
theorem so_return (hret : M.2.2.2.2.1 = none) (hd : decode M.2.2.1 pc = .ok (.return_, 1)) : ac_So M scr pc (op_return M.2.2.2.2.2.2) := by
  intro p l e s m args below meth c base D A Q G lv st ah k n h H locs ls hR hS hL
  obtain ⟨-, hx, hb, -, hr, -, -, hlk, -⟩ := G
  obtain ⟨rfl, h1, h2, h3⟩ := h
  refine vx_ret (W.widen h2 h3 ?_)
  exact W.vret hx hb (hr.trans hret) (fun t ht hW => ⟨_, ah, rfl, h1, by rw [ht]; exact hR, hS.F ht⟩) hS.2.2 hd hlk
end ACW
end
section
/-! ===== contracts, calls ===== -/
def ac_cd (y : MethodName) (M : ac_D) : Cond := match M.2.2.2.2.2.1 with
  | [] => .code y M.2.2.1 M.2.2.2.1 M.2.2.2.2.1
  | hh => .codeWith y M.2.2.1 M.2.2.2.1 M.2.2.2.2.1 hh
def ac_ws (y : MethodName) (M : ac_D) : List Cond := ac_cd y M :: ac_gw
/-- the contract: what T asks is enough on the machine -/
def ac_Ct (y : MethodName) (M : ac_D) (T : ac_T) : Prop := ∀ (l : Launch) (base : Nat) (D : va_G) (A : Nat → ClassId) (as : List Value) (ah : ac_H) (Q : ac_Q), l.stackTraces = false → T as ah Q →
  vx_Met l y (ac_ws y M) M.2.2.2.2.2.2 (va_Pc as (fun U => ac_Rep base D A ah U.heap ∧ ac_KN base D A U U.heap ∧ base ≤ U.heap.size)) (ac_Qc base D A Q) (ac_XC base D A Q) M.2.2.2.2.2.2.cells M.2.2.2.2.2.2.slots (ac_B base)
theorem ac_gw_good {w : Cond} (h : w ∈ ac_gw) : goodWord w = true := (List.mem_filter.mp h).2
theorem ac_gwG : GoodIn ac_gw ac_gw := fun w h => ⟨h, good_of_word (ac_gw_good h)⟩
theorem ac_wsG {y : MethodName} {M : ac_D} (h : ac_cd y M ∈ ac_gw) : GoodIn ac_gw (ac_ws y M) := fun w hw => by
  rcases List.mem_cons.mp hw with rfl | hw
  · exact ac_gwG _ h
  · exact ac_gwG _ hw
theorem ac_ng_on {w : Cond} (h : w ∈ ac_ng) : w.onTables = true := by
  have h1 := (List.mem_filter.mp h).2
  cases w <;> first | rfl | (simp [ac_ngw] at h1)
theorem ac_ng_warm {w : Cond} {s U : State} (h : w ∈ ac_ng) (hW : s.WarmedH U.vm) (hw : va_Nw w s) : va_Nw w U := by
  have h1 := (List.mem_filter.mp h).2
  cases w with
  | fieldLinkNest => exact va_Nw.warmF hW hw
  | methodLinkNest => exact va_Nw.warmM hW hw
  | declares => exact va_Nw.warmD hW hw
  | castable => exact va_Nw.warmC hW hw
  | _ => simp [ac_ngw] at h1
theorem ac_KN.moved {base : Nat} {D : va_G} {A : Nat → ClassId} {s U : State} {H H1 : Heap} (hW : s.WarmedH U.vm) (hq : ∀ q : Nat, q < H.size → ¬ ac_B base q → H1[q]? = H[q]?) (hb : base ≤ H.size) (h : ac_KN base D A s H) : ac_KN base D A U H1 := by
  obtain ⟨h1, h2, h3, ⟨zn, z1, z2, z3⟩, h5, h6, h7, h8⟩ := h
  refine ⟨va_K.moved hW.alike h1, (h2.moved hW.alike).kept hq, (h3.moved hW.alike).kept hq, ⟨zn, (z1.moved hW.alike).kept hq, (va_X.moved hW.alike z2).kept (hq zn (Nat.lt_of_lt_of_le z3 hb) (fun z => absurd z (Nat.not_le.mpr z3))), z3⟩, fun q hq => (h5 q hq).moved hW.alike, fun w hw => ac_ng_warm hw hW (h6 w hw), h7.moved hW.alike, h8.moved hW.alike⟩
theorem ac_popv : ∀ {i : Nat} {st acc : List Value} {K : List Value → List Value → Prop}, ac_pop i st acc K → ∃ as r, st = as ++ r ∧ as.length = i ∧ K (as.reverse ++ acc) r
  | 0, st, acc, K, h => by
    have h : K acc st := by cases st <;> exact h
    exact ⟨[], st, rfl, rfl, h⟩
  | i + 1, [], acc, K, h => False.elim h
  | i + 1, v :: st, acc, K, h => by
    obtain ⟨as, r, e1, e2, e3⟩ := ac_popv (i := i) (st := st) (acc := v :: acc) h
    exact ⟨v :: as, r, by rw [e1]; rfl, by simp [e2], by simpa using e3⟩
/-- n values off the stack, in the order of the parameters -/
theorem ac_popw {i : Nat} {st : List Value} {K : List Value → List Value → Prop} (h : ac_pop i st [] K) : ∃ as r, st = as.reverse ++ r ∧ as.length = i ∧ K as r := by
  obtain ⟨as, r, e1, e2, e3⟩ := ac_popv h
  exact ⟨as.reverse, r, by rw [List.reverse_reverse]; exact e1, by rw [List.length_reverse]; exact e2, by simpa using e3⟩
theorem ac_cat (v : Value) : v.category ≤ 2 := by rcases lv_cat v with h | h <;> omega
theorem ac_room : ∀ {r : List Value}, r.length ≤ 4 → (r.map fun v => v.category).sum ≤ 8 := by
  intro r h
  have key : ∀ r : List Value, (r.map fun v => v.category).sum ≤ 2 * r.length := by
    intro r
    induction r with
    | nil => simp
    | cons a t ih =>
      have := ac_cat a
      simp only [List.map_cons, List.sum_cons, List.length_cons]
      omega
  have := key r
  omega
section ACR
variable {p : Program} {l : Launch} {e : Env} {s : State} {m : MethodId} {args : Array Value} {below : List Frame} {meth : Method} {c : Code} {H : Heap} {locs : List Loc} {k n : Nat} {QQ : State → Prop} {M : ac_D} {scr : Nat → Nat → (Nat → Int32) → Prop}
variable {base : Nat} {D : va_G} {A : Nat → ClassId} {Q : ac_Q} {R : Room} {pc nx mc ms : Nat} {ls : Array Slot} {st rest : List Value} {a : Array Value}
theorem ac_frS {H1 : Heap} {L : List Loc} {st₀ t T' : State} (hS : va_S (ac_B base) s.heap H locs) (h0 : st₀.heap = H) (e1 : T'.heap = t.heap) (hL : ∀ q ∈ L, ac_B base q.base) (hF : va_F (ac_B base) st₀ t) : va_S (ac_B base) s.heap T'.heap (locs ++ L) := by
  obtain ⟨f1, f2⟩ := hF
  rw [h0] at f1 f2
  refine ⟨by rw [e1]; exact Nat.le_trans hS.1 f1, fun q h1 h2 => by rw [e1, f2 q (Nat.lt_of_lt_of_le h1 hS.1) h2]; exact hS.2.1 q h1 h2, fun z hz => ?_⟩
  rcases List.mem_append.mp hz with h | h
  · exact hS.2.2 z h
  · exact hL z h
/-- behind a call -/
theorem ac_run {Qn : ac_Q} (hr : vx_Run p l e R s m args below meth c H locs k n mc ms (F0 m pc ls st) rest (ac_Qc base D A Qn a) (ac_XC base D A Qn) (ac_B base)) (hS : va_S (ac_B base) s.heap H locs)
    (kret : ∀ (v : Option Value) (ah : ac_H) (H1 : Heap) (locs1 : List Loc), Qn (.inl v) ah → ac_Rep base D A ah H1 → va_S (ac_B base) s.heap H1 locs1 → W p l e R s m args below meth c H1 locs1 (k + mc) (n + ms) QQ (F0 m (pc + 3) ls (v.toList ++ rest)))
    (kthr : ∀ (x : Nat) (ah : ac_H) (H1 : Heap) (locs1 : List Loc) (ce : Cell) (q : Addr), Qn (.inr x) ah → ac_Rep base D A ah H1 → va_S (ac_B base) s.heap H1 locs1 → H1[q]? = some ce → ce.vm = .none → s.vm.findClass (ac_xn x) = some ce.cls → vx_W p l e R s m args below meth c H1 locs1 (k + mc) (n + ms) QQ (F0 m pc ls rest) q) :
    W p l e R s m args below meth c H locs k n QQ (F0 m pc ls st) := by
  intro T hT X
  rcases hr T hT X with ⟨v, st₀, t, T', L, h0, X', hL, e1, e2, ⟨v', ah, hv, hQ, hR, hF⟩, sg⟩ | ⟨q, st₀, t, T', L, E, ce, h0, X', hL, e1, e2, ⟨x, ah, hxE, hQ, hR, hF⟩, hce, hcv, hcl, sg⟩
  · cases hv
    obtain ⟨t2, a1, b1⟩ := kret v ah T'.heap (locs ++ L) hQ (by rw [e1]; exact hR) (ac_frS (H1 := H) hS h0 e1 hL hF) T' rfl X'
    exact ⟨t2, sg t2 a1, b1⟩
  · subst hxE
    obtain ⟨t2, a1, b1⟩ := kthr x ah T'.heap (locs ++ L) ce q hQ (by rw [e1]; exact hR) (ac_frS (H1 := H) hS h0 e1 hL hF) (by rw [e1]; exact hce) hcv hcl T' rfl X'
    exact ⟨t2, sg.trans a1, b1⟩
theorem ac_ncF : ∀ x : Fin 7, ∀ y : Fin 7, x = y ∨ (ac_xn x.val, ac_xn y.val) ∈ ac_nc := by decide +kernel
theorem ac_ncx (x : Nat) (hx : x < 7) (y : Nat) (hy : y < 7) (h : x ≠ y) : (ac_xn x, ac_xn y) ∈ ac_nc := (ac_ncF ⟨x, hx⟩ ⟨y, hy⟩).resolve_left (fun q => h (congrArg Fin.val q))
theorem ac_cax : ∀ x, x < 7 → Cond.castable (ac_xn x) (ac_xn x) ∈ ac_ng := by decide +kernel
/-- the rows of a table that are the law's -/
def ac_tb (own : String) (hh : List (Nat × Nat × Nat × Nat)) : Prop := ∀ q ∈ hh, q.2.2.2 ≠ 0 ∧ ac_cx q.2.2.2 < 7 ∧ Cond.classLink own q.2.2.2 (ac_xn (ac_cx q.2.2.2)) ∈ ac_gw
theorem ac_fndv {hh : List (Nat × Nat × Nat × Nat)} {x : Nat} : match ac_fnd hh pc x with
    | none => ∀ q ∈ hh, (¬ (q.1 ≤ pc ∧ pc < q.2.1)) ∨ ac_cx q.2.2.2 ≠ x
    | some t => ∃ pre q suf, hh = pre ++ q :: suf ∧ q.2.2.1 = t ∧ (q.1 ≤ pc ∧ pc < q.2.1) ∧ ac_cx q.2.2.2 = x ∧ ∀ z ∈ pre, (¬ (z.1 ≤ pc ∧ pc < z.2.1)) ∨ ac_cx z.2.2.2 ≠ x := by
  induction hh with
  | nil => intro q hq; cases hq
  | cons q r ih =>
    by_cases hc : (Nat.ble q.1 pc && (Nat.ble (pc + 1) q.2.1 && Nat.beq (ac_cx q.2.2.2) x)) = true
    · have e : ac_fnd (q :: r) pc x = some q.2.2.1 := by show cond _ _ _ = _; rw [hc]; rfl
      rw [e]
      simp only [Bool.and_eq_true, Nat.ble_eq, Nat.beq_eq] at hc
      exact ⟨[], q, r, rfl, rfl, ⟨hc.1, hc.2.1⟩, hc.2.2, fun z hz => by cases hz⟩
    · have e : ac_fnd (q :: r) pc x = ac_fnd r pc x := by
        show cond _ _ _ = _
        rw [Bool.eq_false_iff.mpr hc]; rfl
      have hq : (¬ (q.1 ≤ pc ∧ pc < q.2.1)) ∨ ac_cx q.2.2.2 ≠ x := by
        simp only [Bool.and_eq_true, Nat.ble_eq, Nat.beq_eq] at hc
        by_cases h1 : q.1 ≤ pc ∧ pc < q.2.1
        · exact Or.inr fun h2 => hc ⟨h1.1, h1.2, h2⟩
        · exact Or.inl h1
      rw [e]
      cases hf : ac_fnd r pc x with
      | none =>
        rw [hf] at ih
        intro z hz
        rcases List.mem_cons.mp hz with rfl | hz
        · exact hq
        · exact ih z hz
      | some t =>
        rw [hf] at ih
        obtain ⟨pre, z, suf, e1, e2, e3, e4, e5⟩ := ih
        refine ⟨q :: pre, z, suf, by rw [e1]; rfl, e2, e3, e4, fun w hw => ?_⟩
        rcases List.mem_cons.mp hw with rfl | hw
        · exact hq
        · exact e5 w hw
theorem ac_cov {q : Nat × Nat × Nat × Nat} : covers (⟨q.1, q.2.1, q.2.2.1, q.2.2.2⟩ : ExceptionTableEntry) pc = true ↔ (q.1 ≤ pc ∧ pc < q.2.1) := by simp [covers]
/-- what the continuation of a call asks is enough -/
theorem ac_kov {ah : ac_H} {lv : ac_V} {x : Nat} {locs1 : List Loc} {H1 : Heap} {ce : Cell} {q : Addr} (G : ac_G l p s m args meth c M base D A scr) (htb : ac_tb M.1 M.2.2.2.2.2.1) (hk : k ≤ M.2.2.2.2.2.2.cells) (hn : n ≤ M.2.2.2.2.2.2.slots) (hL : ac_L ls M.2.2.2.1 lv)
    (h : ac_ko M.2.2.2.2.2.1 pc nx (ac_W p l e s m args below meth c M.2.2.2.1 M.2.2.2.2.2.2 base D A Q) Q lv rest k n (.inr x) ah) (hR : ac_Rep base D A ah H1) (hS : va_S (ac_B base) s.heap H1 locs1) (hce : H1[q]? = some ce) (hcv : ce.vm = .none) (hcl : s.vm.findClass (ac_xn x) = some ce.cls) :
    vx_W p l e M.2.2.2.2.2.2 s m args below meth c H1 locs1 k n (vx_MQ below (ac_Qc base D A Q) (ac_XC base D A Q) args s M.2.2.2.2.2.2.cells M.2.2.2.2.2.2.slots (ac_B base)) (F0 m pc ls rest) q := by
  obtain ⟨hl, hx, hb, hml, hr, hown, hts, hlk, htab, hK, hbs, hmn, hsc⟩ := G
  obtain ⟨hx7, h⟩ := h
  have hf := ac_fndv (pc := pc) (hh := M.2.2.2.2.2.1) (x := x)
  have hpass : ∀ z ∈ M.2.2.2.2.2.1, ((¬ (z.1 ≤ pc ∧ pc < z.2.1)) ∨ ac_cx z.2.2.2 ≠ x) → covers (⟨z.1, z.2.1, z.2.2.1, z.2.2.2⟩ : ExceptionTableEntry) pc = false ∨ (z.2.2.2 ≠ 0 ∧ ∃ nm : String, (Cond.classLink M.1 z.2.2.2 nm).before args s = true ∧ va_Nc (ac_xn x) nm s) := by
    intro z hz h1
    rcases h1 with h1 | h1
    · refine Or.inl ?_
      cases hc : covers (⟨z.1, z.2.1, z.2.2.1, z.2.2.2⟩ : ExceptionTableEntry) pc with
      | false => rfl
      | true => exact absurd (ac_cov.mp hc) h1
    · obtain ⟨t1, t2, t3⟩ := htb z hz
      exact Or.inr ⟨t1, _, hts _ t3, hK.2.2.2.2.1 _ (ac_ncx x hx7 _ t2 (Ne.symm h1))⟩
  cases hfx : ac_fnd M.2.2.2.2.2.1 pc x with
  | none =>
    rw [hfx] at hf h
    refine vx_outP hown hlk (fun z hz => ?_) hce hcv hcl (fun t ht hvm => ⟨x, ah, rfl, h, by rw [ht]; exact hR, hS.F ht⟩) hS.2.2 hk hn
    rw [htab] at hz
    obtain ⟨z0, hz0, rfl⟩ := List.mem_map.mp hz
    exact hpass z0 hz0 (hf z0 hz0)
  | some t =>
    rw [hfx] at hf h
    obtain ⟨pre, z, suf, e1, e2, e3, e4, e5⟩ := hf
    have hzin : z ∈ M.2.2.2.2.2.1 := by rw [e1]; simp
    obtain ⟨t1, t2, t3⟩ := htb z hzin
    rw [e4] at t3
    refine vx_catch hown (pre.map fun q => ⟨q.1, q.2.1, q.2.2.1, q.2.2.2⟩) ⟨z.1, z.2.1, z.2.2.1, z.2.2.2⟩ (suf.map fun q => ⟨q.1, q.2.1, q.2.2.1, q.2.2.2⟩) (by rw [htab, e1]; simp [tableOf]) (fun w hw => ?_) (ac_cov.mpr e3) t1 (hts _ t3) (va_Nw.use rfl (hK.2.2.2.2.2.1 _ (ac_cax x hx7))) hce hcv hcl ?_
    · obtain ⟨w0, hw0, rfl⟩ := List.mem_map.mp hw
      exact hpass w0 (by rw [e1]; simp [hw0]) (e5 w0 hw0)
    · have h : ∀ a : Nat, _ := h
      show W p l e _ s m args below meth c H1 locs1 k n _ (F0 m z.2.2.1 ls [.ref q])
      rw [e2]
      exact h q H1 locs1 ls hR hS hL
end ACR
end
section
/-! ===== the calls' rows ===== -/
section ACX
variable {p : Program} {l : Launch} {e : Env} {R : Room} {s : State} {m : MethodId} {args : Array Value} {below : List Frame} {meth : Method} {c : Code} {H : Heap} {locs : List Loc} {k n : Nat} {pc mc ms : Nat} {ls : Array Slot} {st rest av : List Value} {y : MethodName} {Pc : Array Value → State → Prop} {Qc : Array Value → State → Outcome → State → Prop} {XC : String → State → State → Prop} {free : Addr → Prop} {ig : Instr}
/-- a call, out of the invoking instruction's own step -/
theorem ac_mkRun (hK : vx_Back l R p e below s args y 3 8 (PreOf R mc ms Pc) (PostOf Qc mc ms free) (vx_Post XC mc ms free)) (hsize : ls.size = c.maxLocals) (hW : (rest.map fun v => v.category).sum ≤ 8) (hdg : decode c.code pc = .ok (ig, 3)) (hf : k + mc ≤ R.cells ∧ n + ms ≤ R.slots) (hPc : ∀ U : State, U.heap = H → s.WarmedH U.vm → Pc av.toArray U)
    (hstep : ∀ T : State, T.heap = H → Stand p l e R s m args below meth c T locs k n → ∃ (mk : MethodId) (vm₁ : Vm), s.WarmedH vm₁ ∧ s.methodNamed? y = some mk ∧ ∀ target, (∀ acts, Steps p.tables e below (doInvoke e ((T.setVm vm₁).setTop (F0 m pc ls rest)) acts mk av.toArray).1 target) → Steps p.tables e below (T.setTop (F0 m pc ls st)) target) :
    vx_Run p l e R s m args below meth c H locs k n mc ms (F0 m pc ls st) rest (Qc av.toArray) XC free := by
  intro T hT X
  obtain ⟨mk, vm₁, hW₁, hnamed, hstep₁⟩ := hstep T hT X
  have X₁ := X.noted hW₁
  rcases hK m meth c ⟨T.setVm vm₁, locs, k, n⟩ (F0 m pc ls rest) ig mk av.toArray X₁ rfl hsize hdg (lv_room hW) (X₁.named hnamed) ⟨hf.1, hf.2, hPc (T.setVm vm₁) hT hW₁⟩ with ⟨v, ⟨U', l2, c2, s2⟩, X', ⟨g', mk', t, L, e1, e2, hq, h1, hL, h2, h3⟩, hsteps⟩ | ⟨q, ⟨U', l2, c2, s2⟩, X', ⟨g', mk', t, L, E, ce, e1, e2, hq, hce, hcv, hcl, h1, hL, h2, h3⟩, hsteps⟩
  · dsimp only [Pt.U, Pt.locs, Pt.cells, Pt.slots] at X' e1 e2 h1 h2 h3 hsteps
    subst h1; subst h2; subst h3
    exact Or.inl ⟨v, (T.setVm vm₁).calling g' mk' av.toArray, t, U', L, hT, X', hL, e1, e2, hq, fun target h => hstep₁ _ fun acts => by rw [doInvoke_state]; exact hsteps.trans h⟩
  · dsimp only [Pt.U, Pt.locs, Pt.cells, Pt.slots] at X' e1 e2 h1 h2 h3 hsteps hcl
    subst h1; subst h2; subst h3
    exact Or.inr ⟨q, (T.setVm vm₁).calling g' mk' av.toArray, t, U', L, E, ce, hT, X', hL, e1, e2, hq, hce, hcv, vx_cls hW₁ hcl, hstep₁ _ fun acts => by rw [doInvoke_state]; exact hsteps⟩
end ACX
section ACY
variable {M N : ac_D} {scr : Nat → Nat → (Nat → Int32) → Prop} {pc nx na idx : Nat} {y : MethodName} {T : ac_T}
/-- what the tables say of a callee -/
def ac_cal (M N : ac_D) (y : MethodName) (na : Nat) : Prop := ac_cd y N ∈ ac_gw ∧ Cond.initialized y.cls ∈ ac_gw ∧ (y.cls ≠ "java/lang/invoke/MethodHandle" ∧ y.cls ≠ "java/lang/invoke/VarHandle" ∧ (parseMethodDescriptor y.desc).map (fun d => d.parameters.length) = some na) ∧ (N.2.2.2.2.2.2.frames + 1 ≤ M.2.2.2.2.2.2.frames ∧ 8 + (N.2.2.2.1 + 11) + N.2.2.2.2.2.2.locals ≤ M.2.2.2.2.2.2.locals) ∧ ac_tb M.1 M.2.2.2.2.2.1
theorem ac_len {y : MethodName} {na : Nat} (h : (parseMethodDescriptor y.desc).map (fun d => d.parameters.length) = some na) : ∀ sig, parseMethodDescriptor y.desc = some sig → na = sig.parameters.length := fun sig hs => by
  rw [hs] at h
  exact (Option.some.inj h).symm
theorem ac_blind {base : Nat} {D : va_G} {A : Nat → ClassId} {as : List Value} {ah : ac_H} : FrameBlind (va_Pc as (fun U => ac_Rep base D A ah U.heap ∧ ac_KN base D A U U.heap ∧ base ≤ U.heap.size)) := by
  intro a U g mk h
  obtain ⟨h1, h2, h3, h4⟩ := h
  exact ⟨h1, h2, ac_KN.moved (s := U) (U := U.calling g mk a) (H := U.heap) (State.WarmedH.refl U) (fun _ _ _ => rfl) h4 h3, h4⟩
theorem ac_backN {p : Program} {l : Launch} {e : Env} {s : State} {args : Array Value} {below : List Frame} {base : Nat} {D : va_G} {A : Nat → ClassId} {as : List Value} {ah : ac_H} {Q : ac_Q} (hw : ac_ws y N = Cond.code y N.2.2.1 N.2.2.2.1 N.2.2.2.2.1 :: ac_gw) (hc : ac_cal M N y na) (hts : ∀ w ∈ ac_gw, w.before args s = true)
    (hM : vx_Met l y (ac_ws y N) N.2.2.2.2.2.2 (va_Pc as (fun U => ac_Rep base D A ah U.heap ∧ ac_KN base D A U U.heap ∧ base ≤ U.heap.size)) (ac_Qc base D A Q) (ac_XC base D A Q) N.2.2.2.2.2.2.cells N.2.2.2.2.2.2.slots (ac_B base)) :
    vx_Back l M.2.2.2.2.2.2 p e below s args y 3 8 (PreOf M.2.2.2.2.2.2 N.2.2.2.2.2.2.cells N.2.2.2.2.2.2.slots (va_Pc as (fun U => ac_Rep base D A ah U.heap ∧ ac_KN base D A U U.heap ∧ base ≤ U.heap.size))) (PostOf (ac_Qc base D A Q) N.2.2.2.2.2.2.cells N.2.2.2.2.2.2.slots (ac_B base)) (vx_Post (ac_XC base D A Q) N.2.2.2.2.2.2.cells N.2.2.2.2.2.2.slots (ac_B base)) := by
  obtain ⟨h1, h2, h3, h4, h5⟩ := hc
  exact vx_back (bytes := N.2.2.1) (maxL := N.2.2.2.1) (ret := N.2.2.2.2.1) hM ac_blind rfl rfl h4.1 h4.2 (fun w hw' a' U hW => word_at hW (ac_wsG h1 w hw').2 (hts _ (ac_wsG h1 w hw').1)) (by rw [hw]; exact List.mem_cons_self) (fun a' U hW => word_at hW (ac_gwG _ h2).2 (hts _ h2))
theorem ac_backX {p : Program} {l : Launch} {e : Env} {s : State} {args : Array Value} {below : List Frame} {base : Nat} {D : va_G} {A : Nat → ClassId} {as : List Value} {ah : ac_H} {Q : ac_Q} (hw : ac_ws y N = Cond.codeWith y N.2.2.1 N.2.2.2.1 N.2.2.2.2.1 N.2.2.2.2.2.1 :: ac_gw) (hc : ac_cal M N y na) (hts : ∀ w ∈ ac_gw, w.before args s = true)
    (hM : vx_Met l y (ac_ws y N) N.2.2.2.2.2.2 (va_Pc as (fun U => ac_Rep base D A ah U.heap ∧ ac_KN base D A U U.heap ∧ base ≤ U.heap.size)) (ac_Qc base D A Q) (ac_XC base D A Q) N.2.2.2.2.2.2.cells N.2.2.2.2.2.2.slots (ac_B base)) :
    vx_Back l M.2.2.2.2.2.2 p e below s args y 3 8 (PreOf M.2.2.2.2.2.2 N.2.2.2.2.2.2.cells N.2.2.2.2.2.2.slots (va_Pc as (fun U => ac_Rep base D A ah U.heap ∧ ac_KN base D A U U.heap ∧ base ≤ U.heap.size))) (PostOf (ac_Qc base D A Q) N.2.2.2.2.2.2.cells N.2.2.2.2.2.2.slots (ac_B base)) (vx_Post (ac_XC base D A Q) N.2.2.2.2.2.2.cells N.2.2.2.2.2.2.slots (ac_B base)) := by
  obtain ⟨h1, h2, h3, h4, h5⟩ := hc
  exact vx_backW (bytes := N.2.2.1) (maxL := N.2.2.2.1) (ret := N.2.2.2.2.1) (hh := N.2.2.2.2.2.1) hM ac_blind rfl rfl h4.1 h4.2 (fun w hw' a' U hW => word_at hW (ac_wsG h1 w hw').2 (hts _ (ac_wsG h1 w hw').1)) (by rw [hw]; exact List.mem_cons_self) (fun a' U hW => word_at hW (ac_gwG _ h2).2 (hts _ h2))
/-- behind the call: the continuation -/
theorem ac_done {p : Program} {l : Launch} {e : Env} {s : State} {m : MethodId} {args : Array Value} {below : List Frame} {meth : Method} {c : Code} {base : Nat} {D : va_G} {A : Nat → ClassId} {Q : ac_Q} {lv : ac_V} {st r : List Value} {k n : Nat} {H : Heap} {locs : List Loc} {ls : Array Slot} {rc : Room} {a : Array Value}
    (G : ac_G l p s m args meth c M base D A scr) (htb : ac_tb M.1 M.2.2.2.2.2.1) (hk : k + rc.cells ≤ M.2.2.2.2.2.2.cells) (hn : n + rc.slots ≤ M.2.2.2.2.2.2.slots) (hL : ac_L ls M.2.2.2.1 lv) (hS : va_S (ac_B base) s.heap H locs)
    (hr : vx_Run p l e M.2.2.2.2.2.2 s m args below meth c H locs k n rc.cells rc.slots (F0 m pc ls st) r (ac_Qc base D A (ac_ko M.2.2.2.2.2.1 pc (pc + 3) (ac_W p l e s m args below meth c M.2.2.2.1 M.2.2.2.2.2.2 base D A Q) Q lv r (k + rc.cells) (n + rc.slots)) a) (ac_XC base D A (ac_ko M.2.2.2.2.2.1 pc (pc + 3) (ac_W p l e s m args below meth c M.2.2.2.1 M.2.2.2.2.2.2 base D A Q) Q lv r (k + rc.cells) (n + rc.slots))) (ac_B base)) :
    W p l e M.2.2.2.2.2.2 s m args below meth c H locs k n (vx_MQ below (ac_Qc base D A Q) (ac_XC base D A Q) args s M.2.2.2.2.2.2.cells M.2.2.2.2.2.2.slots (ac_B base)) (F0 m pc ls st) := by
  refine ac_run hr hS (fun v ah' H1 locs1 hq hR1 hS1 => ?_) (fun x ah' H1 locs1 ce q hq hR1 hS1 e1 e2 e3 => ac_kov G htb hk hn hL hq hR1 hS1 e1 e2 e3)
  cases v with
  | none => exact hq H1 locs1 ls hR1 hS1 hL
  | some v => exact hq H1 locs1 ls hR1 hS1 hL
theorem ac_pcU {s : State} {base : Nat} {D : va_G} {A : Nat → ClassId} {as : List Value} {ah : ac_H} {H : Heap} {locs : List Loc} (hbs : base ≤ s.heap.size) (hK : ac_KN base D A s s.heap) (hR : ac_Rep base D A ah H) (hS : va_S (ac_B base) s.heap H locs) : ∀ U : State, U.heap = H → s.WarmedH U.vm → va_Pc as (fun U => ac_Rep base D A ah U.heap ∧ ac_KN base D A U U.heap ∧ base ≤ U.heap.size) as.toArray U := by
  intro U hU hW
  refine ⟨rfl, by rw [hU]; exact hR, ?_, by rw [hU]; exact hR.1⟩
  rw [hU]
  exact ac_KN.moved hW (fun q h1 h2 => hS.2.1 q h1 h2) hbs hK
theorem so_callS (hC : ac_Ct y N T) (hw : ac_ws y N = Cond.code y N.2.2.1 N.2.2.2.1 N.2.2.2.2.1 :: ac_gw) (hc : ac_cal M N y na) (hd : decode M.2.2.1 pc = .ok (.invokestatic idx, 3)) (hl : Cond.methodLink M.1 idx y ∈ ac_gw) (hst : Cond.static y ∈ ac_gw) (hn : pc + 3 = nx) : ac_So M scr pc (op_callS M.2.2.2.2.2.2 M.2.2.2.2.2.1 T N.2.2.2.2.2.2 na pc nx) := by
  subst hn
  intro p l e s m args below meth c base D A Q G lv st ah k n h H locs ls hR hS hL
  obtain ⟨hlt, hx, hb, hml, hr, hown, hts, hlk, htab, hK, hbs, hmn, hsc⟩ := id G
  obtain ⟨as, r, rfl, hlen, h4, h5, h6, h7⟩ := ac_popw h
  have hM := hC l base D A as ah _ hlt h7
  refine ac_done G hc.2.2.2.2 h5 h6 hL hS (ac_mkRun (av := as) (ac_backN hw hc hts hM) (hL.1.trans hml.symm) (ac_room h4) (by rw [hb]; exact hd) ⟨h5, h6⟩ (ac_pcU hbs hK hR hS) (fun T' hT X => ?_))
  obtain ⟨mk, hnamed⟩ := Cond.code_named (hts _ (by have := hc.1; have e := List.cons.inj hw; rw [← e.1]; exact this))
  obtain ⟨methM, cM, hmethM, hcodeM', -, hlocalsM, -, -, -, hsigM⟩ := Cond.code_spec hnamed (hts _ (by have := hc.1; have e := List.cons.inj hw; rw [← e.1]; exact this))
  have hstatic : methM.isStatic = true := Cond.static_spec hnamed hmethM (hts _ hst)
  obtain ⟨kP, hkP, -⟩ := className_of_methodNamed hnamed
  have hinitP : kP.init = .initialized := Cond.initialized_spec (findClass_of_methodNamed hnamed) hkP (hts _ hc.2.1)
  obtain ⟨vm₁, X₁, hstep₁⟩ := X.invokestatic hx hown (hts _ hl) hnamed hmethM hstatic hkP hinitP ⟨hc.2.2.1.1, hc.2.2.1.2.1⟩ (g := F0 m pc ls (as.reverse ++ r)) rfl (argsL := as) (rest := r) (hlen.trans (ac_len hc.2.2.1.2.2 _ hsigM)) rfl (by rw [hb]; exact hd)
  exact ⟨mk, vm₁, X₁.warmed, hnamed, hstep₁⟩
theorem so_callSX (hC : ac_Ct y N T) (hw : ac_ws y N = Cond.codeWith y N.2.2.1 N.2.2.2.1 N.2.2.2.2.1 N.2.2.2.2.2.1 :: ac_gw) (hc : ac_cal M N y na) (hd : decode M.2.2.1 pc = .ok (.invokestatic idx, 3)) (hl : Cond.methodLink M.1 idx y ∈ ac_gw) (hst : Cond.static y ∈ ac_gw) (hn : pc + 3 = nx) : ac_So M scr pc (op_callS M.2.2.2.2.2.2 M.2.2.2.2.2.1 T N.2.2.2.2.2.2 na pc nx) := by
  subst hn
  intro p l e s m args below meth c base D A Q G lv st ah k n h H locs ls hR hS hL
  obtain ⟨hlt, hx, hb, hml, hr, hown, hts, hlk, htab, hK, hbs, hmn, hsc⟩ := id G
  obtain ⟨as, r, rfl, hlen, h4, h5, h6, h7⟩ := ac_popw h
  have hM := hC l base D A as ah _ hlt h7
  refine ac_done G hc.2.2.2.2 h5 h6 hL hS (ac_mkRun (av := as) (ac_backX hw hc hts hM) (hL.1.trans hml.symm) (ac_room h4) (by rw [hb]; exact hd) ⟨h5, h6⟩ (ac_pcU hbs hK hR hS) (fun T' hT X => ?_))
  obtain ⟨mk, methM, cM, hnamed, hmethM, hcodeM', -, -, -, -, hsigM⟩ := Cond.codeWith_spec (hts _ (by have := hc.1; have e := List.cons.inj hw; rw [← e.1]; exact this))
  have hstatic : methM.isStatic = true := Cond.static_spec hnamed hmethM (hts _ hst)
  obtain ⟨kP, hkP, -⟩ := className_of_methodNamed hnamed
  have hinitP : kP.init = .initialized := Cond.initialized_spec (findClass_of_methodNamed hnamed) hkP (hts _ hc.2.1)
  obtain ⟨vm₁, X₁, hstep₁⟩ := X.invokestatic hx hown (hts _ hl) hnamed hmethM hstatic hkP hinitP ⟨hc.2.2.1.1, hc.2.2.1.2.1⟩ (g := F0 m pc ls (as.reverse ++ r)) rfl (argsL := as) (rest := r) (hlen.trans (ac_len hc.2.2.1.2.2 _ hsigM.2)) rfl (by rw [hb]; exact hd)
  exact ⟨mk, vm₁, X₁.warmed, hnamed, hstep₁⟩
theorem ac_avs {as r : List Value} {a : Nat} : as.reverse ++ (.ref a :: r) = as.reverse ++ .ref a :: r := rfl
theorem so_callI (hC : ac_Ct y N T) (hw : ac_ws y N = Cond.code y N.2.2.1 N.2.2.2.1 none :: ac_gw) (hw0 : N.2.2.2.2.1 = none) (hc : ac_cal M N y na) (hd : decode M.2.2.1 pc = .ok (.invokespecial idx, 3)) (hl : Cond.methodLink M.1 idx y ∈ ac_gw) (hin : Cond.instanceMethod y ∈ ac_gw) (hy1 : y.name = "<init>") (hn : pc + 3 = nx) : ac_So M scr pc (op_callI M.2.2.2.2.2.2 M.2.2.2.2.2.1 T N.2.2.2.2.2.2 na pc nx) := by
  subst hn
  intro p l e s m args below meth c base D A Q G lv st ah k n h H locs ls hR hS hL
  obtain ⟨hlt, hx, hb, hml, hr, hown, hts, hlk, htab, hK, hbs, hmn, hsc⟩ := id G
  obtain ⟨as, r0, rfl, hlen, g0⟩ := ac_popw h
  obtain ⟨a, r, rfl, h4, h5, h6, h7⟩ := ac_a1v g0
  have hM := hC l base D A (.ref a :: as) ah _ hlt h7
  refine ac_done G hc.2.2.2.2 h5 h6 hL hS (ac_mkRun (av := .ref a :: as) (ac_backN (by rw [hw0]; exact hw) hc hts hM) (hL.1.trans hml.symm) (ac_room h4) (by rw [hb]; exact hd) ⟨h5, h6⟩ (ac_pcU hbs hK hR hS) (fun T' hT X => ?_))
  have hpl : e.platform.magicAccessors = ({} : Platform).magicAccessors := by rw [X.admits.platform]
  have hcode : (Cond.code y N.2.2.1 N.2.2.2.1 none).before args s = true := hts _ (by have := hc.1; have e := List.cons.inj hw; rw [← e.1]; exact this)
  obtain ⟨mk, methM, cM, kP, vm₁, hnamed, hmethM, hcodeM, -, hlocalsM, -, hkP, -, hW₁, hstep₁⟩ := Steps.initColdArgs (e := e) X.here hx X.warmed hpl hown hy1 ⟨hc.2.2.1.1, hc.2.2.1.2.1⟩ (hts _ hl) (hts _ hin) hcode (f := F0 m pc ls (as.reverse ++ .ref a :: r)) rfl (fun sig hs => hlen.trans (ac_len hc.2.2.1.2.2 sig hs)) rfl (by rw [hb]; exact hd)
  exact ⟨mk, vm₁, hW₁, hnamed, hstep₁⟩
theorem so_callIN {host : String} (hC : ac_Ct y N T) (hw : ac_ws y N = Cond.code y N.2.2.1 N.2.2.2.1 none :: ac_gw) (hw0 : N.2.2.2.2.1 = none) (hc : ac_cal M N y na) (hd : decode M.2.2.1 pc = .ok (.invokespecial idx, 3)) (hl : Cond.methodLinkNest M.1 idx y host ∈ ac_ng) (hin : Cond.instanceMethod y ∈ ac_gw) (hy1 : y.name = "<init>") (hn : pc + 3 = nx) : ac_So M scr pc (op_callI M.2.2.2.2.2.2 M.2.2.2.2.2.1 T N.2.2.2.2.2.2 na pc nx) := by
  subst hn
  intro p l e s m args below meth c base D A Q G lv st ah k n h H locs ls hR hS hL
  obtain ⟨hlt, hx, hb, hml, hr, hown, hts, hlk, htab, hK, hbs, hmn, hsc⟩ := id G
  obtain ⟨as, r0, rfl, hlen, g0⟩ := ac_popw h
  obtain ⟨a, r, rfl, h4, h5, h6, h7⟩ := ac_a1v g0
  have hM := hC l base D A (.ref a :: as) ah _ hlt h7
  refine ac_done G hc.2.2.2.2 h5 h6 hL hS (ac_mkRun (av := .ref a :: as) (ac_backN (by rw [hw0]; exact hw) hc hts hM) (hL.1.trans hml.symm) (ac_room h4) (by rw [hb]; exact hd) ⟨h5, h6⟩ (ac_pcU hbs hK hR hS) (fun T' hT X => ?_))
  have hpl : e.platform.magicAccessors = ({} : Platform).magicAccessors := by rw [X.admits.platform]
  have hcode : (Cond.code y N.2.2.1 N.2.2.2.1 none).before args s = true := hts _ (by have := hc.1; have e := List.cons.inj hw; rw [← e.1]; exact this)
  obtain ⟨mk, methM, cM, kP, vm₁, hnamed, hmethM, hcodeM, -, hlocalsM, -, hkP, -, hW₁, hstep₁⟩ := Steps.initColdArgsNest (e := e) X.here hx X.warmed hpl hown hy1 ⟨hc.2.2.1.1, hc.2.2.1.2.1⟩ (va_Nw.use rfl (hK.2.2.2.2.2.1 _ hl)) (hts _ hin) hcode (f := F0 m pc ls (as.reverse ++ .ref a :: r)) rfl (fun sig hs => hlen.trans (ac_len hc.2.2.1.2.2 sig hs)) rfl (by rw [hb]; exact hd)
  exact ⟨mk, vm₁, hW₁, hnamed, hstep₁⟩
theorem so_callV {ci : Nat} {rc : vw_C} (hC : ac_Ct y N T) (hw : ac_ws y N = Cond.code y N.2.2.1 N.2.2.2.1 N.2.2.2.2.1 :: ac_gw) (hc : ac_cal M N y na) (hci : vwCl[ci]? = some rc) (hd : decode M.2.2.1 pc = .ok (.invokevirtual idx, 3)) (hl : Cond.methodLink M.1 idx y ∈ ac_gw) (hin : Cond.instanceMethod y ∈ ac_gw) (hse : Cond.selects rc.1 y y ∈ ac_gw) (hn : pc + 3 = nx) : ac_So M scr pc (op_callV M.2.2.2.2.2.2 M.2.2.2.2.2.1 ci T N.2.2.2.2.2.2 na pc nx) := by
  subst hn
  intro p l e s m args below meth c base D A Q G lv st ah k n h H locs ls hR hS hL
  obtain ⟨hlt, hx, hb, hml, hr, hown, hts, hlk, htab, hK, hbs, hmn, hsc⟩ := id G
  obtain ⟨as, r0, rfl, hlen, g0⟩ := ac_popw h
  obtain ⟨a, r, rfl, fs, h1, h4, h5, h6, h7⟩ := ac_a1v g0
  have hM := hC l base D A (.ref a :: as) ah _ hlt h7
  obtain ⟨ws, hP, hD, hin1, -⟩ := ac_fullR hR
  obtain ⟨q0, hq⟩ := hin1 a _ h1
  obtain ⟨cellB, hcB, hoB, hclB⟩ := va_recv (D := D) hK.1 hP hci hq
  refine ac_done G hc.2.2.2.2 h5 h6 hL hS (ac_mkRun (av := .ref a :: as) (ac_backN hw hc hts hM) (hL.1.trans hml.symm) (ac_room h4) (by rw [hb]; exact hd) ⟨h5, h6⟩ (ac_pcU hbs hK hR hS) (fun T' hT X => ?_))
  obtain ⟨mk, methM, hnamed, hmethM, hstM, habM⟩ := Cond.instanceMethod_spec (hts _ hin)
  obtain ⟨methM', cM, hmethM', -, -, -, -, -, -, hsigM⟩ := Cond.code_spec hnamed (hts _ (by have := hc.1; have e := List.cons.inj hw; rw [← e.1]; exact this))
  cases hmethM.symm.trans hmethM'
  obtain ⟨c2, r2, m2, q1, q2, q3, q4, kP, hkP, hkPi⟩ := Cond.selects_spec (hts _ hse)
  cases hclB.symm.trans q1
  cases (State.methodFound?_of_named hnamed ⟨hc.2.2.1.1, hc.2.2.1.2.1⟩).symm.trans q2
  cases hnamed.symm.trans q3
  have hselP : selectMethod e.platform s.vm cellB.cls mk = .method mk := by rw [Launch.admits_selectMethod X.admits]; exact q4
  obtain ⟨vm₁, X₁, hstep₁⟩ := X.invokevirtual hx hown (hts _ hl) hnamed hmethM hstM hkP hkPi ⟨hc.2.2.1.1, hc.2.2.1.2.1⟩ (a := a) (cell := cellB) (by rw [hT]; exact hcB)
    (fun z h => by rw [h] at hoB; cases hoB) hselP hmethM habM hkP hkPi (g := F0 m pc ls (as.reverse ++ .ref a :: r)) rfl (argsL := as) (rest := r) (hlen.trans (ac_len hc.2.2.1.2.2 _ hsigM)) rfl (by rw [hb]; exact hd)
  exact ⟨mk, vm₁, X₁.warmed, hnamed, hstep₁⟩
/-- one class of a call by the receiver's class -/
def ac_en (M : ac_D) (idx na : Nat) (x : MethodName) (q : Nat × ac_T × Room) : Prop := ∃ (y : MethodName) (N : ac_D) (rc : vw_C), ac_Ct y N q.2.1 ∧ N.2.2.2.2.2.2 = q.2.2 ∧ ac_ws y N = Cond.code y N.2.2.1 N.2.2.2.1 N.2.2.2.2.1 :: ac_gw ∧ ac_cal M N y na ∧ vwCl[q.1]? = some rc ∧ Cond.instanceMethod y ∈ ac_gw ∧ Cond.selects rc.1 x y ∈ ac_gw
theorem ac_vtv {tb : List (Nat × ac_T × Room)} {cj : Nat} {K : ac_T → Room → Prop} (h : ac_vt tb cj K) : ∃ q ∈ tb, q.1 = cj ∧ K q.2.1 q.2.2 := by
  induction tb with
  | nil => exact False.elim h
  | cons q t ih =>
    have h : cond (Nat.beq q.1 cj) (K q.2.1 q.2.2) (ac_vt t cj K) := h
    cases hc : Nat.beq q.1 cj with
    | true =>
      rw [hc] at h
      exact ⟨q, List.mem_cons_self, Nat.eq_of_beq_eq_true hc, h⟩
    | false =>
      rw [hc] at h
      obtain ⟨z, h1, h2⟩ := ih h
      exact ⟨z, List.mem_cons_of_mem _ h1, h2⟩
theorem so_callU {x : MethodName} {tb : List (Nat × ac_T × Room)} (htb : ∀ q ∈ tb, ac_en M idx na x q) (hdecl : (Cond.instanceMethod x ∈ ac_gw ∧ ∃ (b : ByteArray) (k : Nat) (rt : Option FieldType), Cond.code x b k rt ∈ ac_gw) ∨ Cond.declares x ∈ ac_ng) (hsm : Cond.sameMethod x.cls x.cls x.name x.desc ∈ ac_gw) (hxc : x.cls ≠ "java/lang/invoke/MethodHandle" ∧ x.cls ≠ "java/lang/invoke/VarHandle" ∧ (parseMethodDescriptor x.desc).map (fun d => d.parameters.length) = some na) (hd : decode M.2.2.1 pc = .ok (.invokevirtual idx, 3)) (hl : Cond.methodLink M.1 idx x ∈ ac_gw) (hn : pc + 3 = nx) : ac_So M scr pc (op_callU M.2.2.2.2.2.2 M.2.2.2.2.2.1 tb na pc nx) := by
  subst hn
  intro p l e s m args below meth c base D A Q G lv st ah k n h H locs ls hR hS hL
  obtain ⟨hlt, hx, hb, hml, hr, hown, hts, hlk, htab, hK, hbs, hmn, hsc⟩ := id G
  obtain ⟨as, r0, rfl, hlen, g0⟩ := ac_popw h
  obtain ⟨a, r, rfl, cj, fs, h1, g1⟩ := ac_a1v g0
  obtain ⟨q, hqin, rfl, h4, h5, h6, h7⟩ := ac_vtv g1
  obtain ⟨y, N, rc, hC, hrm, hw, hc, hci, hin, hse⟩ := htb q hqin
  have hM := hC l base D A (.ref a :: as) ah _ hlt h7
  obtain ⟨ws, hP, hD, hin1, -⟩ := ac_fullR hR
  obtain ⟨q0, hq⟩ := hin1 a _ h1
  obtain ⟨cellB, hcB, hoB, hclB⟩ := va_recv (D := D) hK.1 hP hci hq
  rw [← hrm] at h5 h6 hM
  refine ac_done (rc := N.2.2.2.2.2.2) G hc.2.2.2.2 h5 h6 hL hS (ac_mkRun (av := .ref a :: as) (ac_backN hw hc hts hM) (hL.1.trans hml.symm) (ac_room h4) (by rw [hb]; exact hd) ⟨h5, h6⟩ (ac_pcU hbs hK hR hS) (fun T' hT X => ?_))
  have hD0 : va_Decl s ⟨x.cls, x.name, x.desc⟩ := by
    rcases hdecl with ⟨d1, b, k9, rt, d2⟩ | d1
    · exact va_Decl.of (hts _ d1) (hts _ d2)
    · exact va_Decl.abs (hK.2.2.2.2.2.1 _ d1)
  obtain ⟨r9, r, hn, hrm, hstR, hsigR⟩ := hD0
  obtain ⟨cn, ck, r1, hcn, hck, hni, hf, hn1⟩ := Cond.sameMethod_found (hts _ hsm)
  cases hn.symm.trans hn1
  obtain ⟨mk, methM, hnamed, hmethM, -, habM⟩ := Cond.instanceMethod_spec (hts _ hin)
  obtain ⟨c2, r2, m2, q1, q2, q3, q4, kP, hkP, hkPi⟩ := Cond.selects_spec (hts _ hse)
  cases hclB.symm.trans q1
  cases hf.symm.trans q2
  cases hnamed.symm.trans q3
  have hselP : selectMethod e.platform s.vm cellB.cls r9 = .method mk := by rw [Launch.admits_selectMethod X.admits]; exact q4
  obtain ⟨vm₁, X₁, hstep₁⟩ := X.invokevirtualUp hx hown (hts _ hl) (hts _ hsm) ⟨hxc.1, hxc.2.1⟩ hn hrm hstR (a := a) (cell := cellB) (by rw [hT]; exact hcB)
    (fun z h => by rw [h] at hoB; cases hoB) hselP hmethM habM hkP hkPi (g := F0 m pc ls (as.reverse ++ .ref a :: _)) rfl (argsL := as) (rest := _) (hlen.trans (ac_len (y := x) hxc.2.2 _ hsigR)) rfl (by rw [hb]; exact hd)
  exact ⟨mk, vm₁, X₁.warmed, hnamed, hstep₁⟩
theorem so_objinit (hd : decode M.2.2.1 pc = .ok (.invokespecial idx, 3)) (hl : Cond.methodLink M.1 idx Lib.objectInit ∈ ac_gw) (hin : Cond.instanceMethod Lib.objectInit ∈ ac_gw) (hcd : Cond.code Lib.objectInit ⟨#[0xb1]⟩ 1 none ∈ ac_gw) (hR1 : 1 ≤ M.2.2.2.2.2.2.frames ∧ 20 ≤ M.2.2.2.2.2.2.locals) (hn : pc + 3 = nx) : ac_So M scr pc (op_objinit nx) := by
  subst hn
  intro p l e s m args below meth c base D A Q G lv st ah k n h H locs ls hR hS hL
  obtain ⟨hlt, hx, hb, hml, hr, hown, hts, hlk, htab, hK, hbs, hmn, hsc⟩ := id G
  obtain ⟨a, r, rfl, h4, h5⟩ := ac_a1v h
  refine W.objInit hx hb hown (hts _ hl) (hts _ hin) (hts _ hcd) rfl (hL.1.trans hml.symm) rfl hd hR1.1 ?_ ?_
  · have h9 := lv_room (m := m) (pc := pc) (ls := ls) (rest := r) (ac_room h4)
    have := hR1.2
    show 2 * (F0 m pc ls r).monitorRoom + _ + 12 ≤ _
    omega
  · exact h5 H locs ls hR hS hL
end ACY
end
section
/-! ===== throws; a new grid; a method's contract ===== -/
theorem ac_txI (j : Int32) : (stringBytes (stringToUtf16 (toString j))).size ≤ 212 ∧ ((toString j) == notModelled) = false := by
  have h1 := int32_print j
  have h2 := stringBytes_size_le (stringToUtf16 (toString j))
  have h3 := utf16_size_le (toString j)
  refine ⟨by omega, ?_⟩
  cases h : (toString j == notModelled) with
  | false => rfl
  | true =>
    have e : toString j = notModelled := by simpa using h
    rw [e] at h1
    exact absurd h1 (by decide +kernel)
section ACT
variable {M : ac_D} {scr : Nat → Nat → (Nat → Int32) → Prop} {pc nx : Nat}
/-- words that hold: of the tables, or of those that are carried along -/
theorem ac_hat {args : Array Value} {s : State} {base : Nat} {D : va_G} {A : Nat → ClassId} {H : Heap} {L : List Cond} (hts : ∀ w ∈ ac_gw, w.before args s = true) (hK : ac_KN base D A s H) (h : ∀ w ∈ L, w ∈ ac_gw ∨ w ∈ ac_ng) : ∀ w ∈ L, w.before args s = true := by
  intro w hw
  rcases h w hw with q | q
  · exact hts w q
  · exact va_Nw.use (ac_ng_on q) (hK.2.2.2.2.2.1 w q)
theorem ac_ot {L : List Cond} (h : ∀ w ∈ L, w ∈ ac_gw ∨ w ∈ ac_ng) : ∀ w ∈ L, vx_ot w = true := by
  intro w hw
  unfold vx_ot
  rcases h w hw with q | q
  · rw [ac_gw_good q]; simp
  · rw [ac_ng_on q]; simp
/-- the heap behind a throw: what was there stays -/
theorem ac_kept {base : Nat} {D : va_G} {A : Nat → ClassId} {ah : ac_H} {s t : State} {H : Heap} {locs : List Loc} (hR : ac_Rep base D A ah H) (hS : va_S (ac_B base) s.heap H locs) (h1 : H.size ≤ t.heap.size) (h2 : ∀ q : Nat, q < H.size → t.heap[q]? = H[q]?) : ac_Rep base D A ah t.heap ∧ va_F (ac_B base) s t := by
  refine ⟨⟨Nat.le_trans hR.1 h1, fun a e he => ⟨(hR.2 a e he).1, (hR.2 a e he).2.kept (h2 a (hR.2 a e he).2.lt)⟩⟩, Nat.le_trans hS.1 h1, fun q h3 h4 => ?_⟩
  rw [h2 q (Nat.lt_of_lt_of_le h3 hS.1)]
  exact hS.2.1 q h3 h4
theorem so_throw {x ik ic : Nat} {names : List String} (h0 : M.2.2.2.2.2.1 = []) (hcls : Bundle.fit (ac_xn x) = true) (hnames : ∀ n ∈ names, Bundle.fit n = true) (hw : ∀ w ∈ Cond.classLink M.1 ik (ac_xn x) :: Cond.initialized (ac_xn x) :: vx_at0 M.1 ic (ac_xn x) names, w ∈ ac_gw ∨ w ∈ ac_ng) (d0 : decode M.2.2.1 pc = .ok (.new ik, 3)) (d3 : decode M.2.2.1 (pc + 3) = .ok (.dup, 1)) (d4 : decode M.2.2.1 (pc + 4) = .ok (.invokespecial ic, 3)) (d7 : decode M.2.2.1 (pc + 7) = .ok (.athrow, 1)) (hRm : names.length + 3 < M.2.2.2.2.2.2.frames ∧ 13 * (names.length + 1) + 42 ≤ M.2.2.2.2.2.2.locals) : ac_So M scr pc (op_throw M.2.2.2.2.2.2 x) := by
  intro p l e s m args below meth c base D A Q G lv st ah k n h H locs ls hR hS hL
  obtain ⟨hlt, hx, hb, hml, hr, hown, hts, hlk, htab, hK, hbs, hmn, hsc⟩ := G
  obtain ⟨hQ, hk, hn, rfl⟩ := h
  have hat := ac_hat hts hK hw
  refine vx_throw0 hx hb hlt hown hcls hnames (hat _ List.mem_cons_self) (hat _ (List.mem_cons_of_mem _ List.mem_cons_self)) (fun w hw' => hat w (List.mem_cons_of_mem _ (List.mem_cons_of_mem _ hw'))) (ac_ot hw) hK.2.1 hK.2.2.1 hS (hL.1.trans hml.symm) d0 d3 d4 d7 (fun z hz => ?_) hRm.1 (by simpa using hRm.2) hk hn hlk (fun t hvm h1 h2 => ?_) hS.2.2 hk hn
  · rw [htab, h0] at hz; cases hz
  · obtain ⟨q1, q2⟩ := ac_kept hR hS h1 h2
    exact ⟨x, ah, rfl, hQ, q1, q2⟩
theorem so_npe (h0 : M.2.2.2.2.2.1 = []) (hw : ∀ w ∈ vx_atN 8, w ∈ ac_gw ∨ w ∈ ac_ng) (hd : decode M.2.2.1 pc = .ok (.arraylength, 1)) (hRm : 7 < M.2.2.2.2.2.2.frames ∧ 10240 ≤ M.2.2.2.2.2.2.locals) : ac_So M scr pc (op_npe M.2.2.2.2.2.2) := by
  intro p l e s m args below meth c base D A Q G lv st ah k n h H locs ls hR hS hL
  obtain ⟨hlt, hx, hb, hml, hr, hown, hts, hlk, htab, hK, hbs, hmn, hsc⟩ := G
  obtain ⟨rfl, hQ, hk, hn⟩ := h
  refine vx_arraylengthN hx hb hd (vx_npe hx hlt (nb := 8) (ac_hat hts hK hw) (ac_ot hw) hK.2.1 hK.2.2.1 hS (hL.1.trans hml.symm) hRm.1 (by simpa using hRm.2) hk hn hlk (fun H1 q9 ce z1 z2 z3 z4 z5 z6 => ?_))
  refine vx_out (fun z hz => ?_) hlk z4 z5 z6 (fun t ht hvm => ?_) z3.2.2 hk hn
  · rw [htab, h0] at hz; cases hz
  · obtain ⟨q1, q2⟩ := ac_kept (t := t) hR hS (by rw [ht]; exact z1) (fun q hq => by rw [ht]; exact z2 q hq)
    exact ⟨1, ah, rfl, hQ, q1, q2⟩
theorem so_nas (h0 : M.2.2.2.2.2.1 = []) {at1 : ArrayType} (hw : ∀ w ∈ vx_atM "java/lang/NegativeArraySizeException" ["java/lang/RuntimeException", "java/lang/Exception"], w ∈ ac_gw ∨ w ∈ ac_ng) (hd : decode M.2.2.1 pc = .ok (.newarray at1, 2)) (hRm : 6 < M.2.2.2.2.2.2.frames ∧ 10240 ≤ M.2.2.2.2.2.2.locals) : ac_So M scr pc (op_nas M.2.2.2.2.2.2) := by
  intro p l e s m args below meth c base D A Q G lv st ah k n h H locs ls hR hS hL
  obtain ⟨hlt, hx, hb, hml, hr, hown, hts, hlk, htab, hK, hbs, hmn, hsc⟩ := G
  obtain ⟨j, r, rfl, rfl, hj, hQ, hk, hn⟩ := ac_i1v h
  refine vx_newarrayZ hx hb hj hd (fun tx htx => vx_vm hx hlt (nb := 212) (names := ["java/lang/RuntimeException", "java/lang/Exception"]) (by decide +kernel) (by decide +kernel) (by decide) (by decide) (ac_hat hts hK hw) (ac_ot hw) hK.2.1 hK.2.2.1 hS (hL.1.trans hml.symm) (by rw [htx]; exact (ac_txI j).2) (by rw [htx]; exact (ac_txI j).1) (by decide) hRm.1 (by simpa using hRm.2) (by decide) hk hn hlk (fun H1 q9 ce z1 z2 z3 z4 z5 z6 => ?_))
  refine vx_out (fun z hz => ?_) hlk z4 z5 z6 (fun t ht hvm => ?_) z3.2.2 hk hn
  · rw [htab, h0] at hz; cases hz
  · obtain ⟨q1, q2⟩ := ac_kept (t := t) hR hS (by rw [ht]; exact z1) (fun q hq => by rw [ht]; exact z2 q hq)
    exact ⟨4, ah, rfl, hQ, q1, q2⟩
theorem so_oob {idx : Nat} (h0 : M.2.2.2.2.2.1 = []) (hw : ∀ w ∈ vx_atM "java/lang/ArrayIndexOutOfBoundsException" ["java/lang/IndexOutOfBoundsException", "java/lang/RuntimeException", "java/lang/Exception"], w ∈ ac_gw ∨ w ∈ ac_ng) (hl : Cond.fieldLink M.1 idx "TypedHall" "NO_ELEMENTS" "[I" ∈ ac_gw) (hd : decode M.2.2.1 pc = .ok (.getstatic idx, 3)) (d3 : decode M.2.2.1 (pc + 3) = .ok (.iload_n 0, 1)) (d4 : decode M.2.2.1 (pc + 4) = .ok (.iaload, 1)) (hRm : 7 < M.2.2.2.2.2.2.frames ∧ 10240 ≤ M.2.2.2.2.2.2.locals) : ac_So M scr pc (op_oob M.2.2.2.2.2.2) := by
  intro p l e s m args below meth c base D A Q G lv st ah k n h H locs ls hR hS hL
  obtain ⟨hlt, hx, hb, hml, hr, hown, hts, hlk, htab, hK, hbs, hmn, hsc⟩ := G
  obtain ⟨v, h1, h2⟩ := ac_ldv h
  obtain ⟨⟨j, rfl⟩, rfl, hQ, hk, hn⟩ := ac_isIv h2
  obtain ⟨zn, z1, z2, z3⟩ := hK.2.2.2.1
  refine va_gets hx hb z1 hS hown (hts _ hl) (fun _ z => z) hd ?_
  refine lv_iload_n hx hb d3 rfl (hL.2.2.2 _ _ h1) ?_
  obtain ⟨cell, e1, e2, e3, e4, -⟩ := z2
  have hcell : H[zn]? = some cell := (hS.2.1 zn (Nat.lt_of_lt_of_le z3 hbs) (fun z => absurd z (Nat.not_le.mpr z3))).trans e1
  have key : ∀ tx : String, tx = (toString "Index " ++ toString j ++ toString " out of bounds for length " ++ toString cell.slots.size) → vx_Note p l e M.2.2.2.2.2.2 s m args below meth c H locs k n (vx_MQ below (ac_Qc base D A Q) (ac_XC base D A Q) args s M.2.2.2.2.2.2.cells M.2.2.2.2.2.2.slots (ac_B base)) (F0 m (pc + 3 + 1) ls []) "java/lang/ArrayIndexOutOfBoundsException" tx := by
    intro tx htx
    refine vx_vm hx hlt (nb := 212) (names := ["java/lang/IndexOutOfBoundsException", "java/lang/RuntimeException", "java/lang/Exception"]) (by decide +kernel) (by decide +kernel) (by decide) (by decide) (ac_hat hts hK hw) (ac_ot hw) hK.2.1 hK.2.2.1 hS (hL.1.trans hml.symm) (by rw [htx]; exact index_text_modelled j _) (by rw [htx]; exact index_text_bytes j (by rw [e4]; decide)) (by decide) hRm.1 (by simpa using hRm.2) (by decide) hk hn hlk (fun H1 q9 ce y1 y2 y3 y4 y5 y6 => ?_)
    refine vx_out (fun z hz => ?_) hlk y4 y5 y6 (fun t ht hvm => ?_) y3.2.2 hk hn
    · rw [htab, h0] at hz; cases hz
    · obtain ⟨q1, q2⟩ := ac_kept (t := t) hR hS (by rw [ht]; exact y1) (fun q hq => by rw [ht]; exact y2 q hq)
      exact ⟨3, ah, rfl, hQ, q1, q2⟩
  intro T hT X
  obtain ⟨t, st, q⟩ := key _ rfl T hT X
  exact ⟨t, X.ialoadOut hx (by rw [hT]; exact hcell) e2 (j := j) (by rw [e4]; exact Or.inr (Nat.zero_le _)) (g := F0 m (pc + 3 + 1) ls [.int j, .ref zn]) rfl (rest := []) rfl (by rw [hb]; exact d4) t st, q⟩
/-- new int[x][y] -/
theorem so_mnew {idx : Nat} (hd : decode M.2.2.1 pc = .ok (.multianewarray idx 2, 4)) (hw : Cond.classLink M.1 idx ("[" ++ (FieldType.array .int).toString) ∈ ac_gw) (hw2 : Cond.arrayClass .int ∈ ac_gw) (hn : pc + 4 = nx) : ac_So M scr pc (op_mnew M.2.2.2.2.2.2 nx) := by
  subst hn
  intro p l e s m args below meth c base D A Q G lv st ah k n h H locs ls hR hS hL
  obtain ⟨hlt, hx, hb, hml, hr, hown, hts, hlk, htab, hK, hbs, hmn, hsc⟩ := G
  obtain ⟨y, r1, rfl, g1⟩ := ac_i1v h
  obtain ⟨x, r, rfl, h1, h2, h3, h4, h5, h6, h7⟩ := ac_i1v g1
  intro T hT X
  have hm : x.toNatClampNeg * y.toNatClampNeg ≤ 6 * 4 := Nat.mul_le_mul h3 h4
  obtain ⟨vm₁, cA, comp, -, fA, fC, hO, -, X', step⟩ := X.multianewarray2F (ty := .int) hx hown (hts _ hw) hK.2.2.2.2.2.2.2 (hts _ hw2) (g := F0 m pc ls (.int y :: .int x :: r)) rfl (by rw [hb]; exact hd) rfl h1 h2 (by omega) (by show y.toNatClampNeg * 4 ≤ _; omega) (by omega) rfl rfl (by omega) (by omega)
  have ecA : cA = A 4 := Option.some.inj (fA.symm.trans (hK.1.2 4 _ rfl).2)
  have ecC : comp = A 0 := Option.some.inj (fC.symm.trans (hK.1.2 0 _ rfl).2)
  subst ecA
  subst ecC
  generalize hF : Jvm.Free.Multi.fill (T.setVm vm₁) (A 4) (A 0) x.toNatClampNeg y.toNatClampNeg (defaultValue .int) x.toNatClampNeg = F at X' step
  have hTh : (T.setVm vm₁).heap = H := hT
  obtain ⟨f1, f2, -, -⟩ := Jvm.Free.Multi.fill_facts (T.setVm vm₁) (A 4) (A 0) x.toNatClampNeg y.toNatClampNeg (defaultValue .int) x.toNatClampNeg
  rw [hF, hTh] at f1 f2
  have hold : ∀ z : Nat, z < H.size → F.heap[z]? = H[z]? := fun z hz => by
    have := Jvm.Free.Multi.fill_old (T.setVm vm₁) (A 4) (A 0) x.toNatClampNeg y.toNatClampNeg (defaultValue .int) (a := z) (by rw [hTh]; exact hz) x.toNatClampNeg
    rw [hF, hTh] at this
    exact this
  have hrow : ∀ j : Nat, j < x.toNatClampNeg → F.heap[H.size + 1 + j]? = some (arrV (A 0) y.toNatClampNeg (fun _ => .int 0)) := fun j hj => by
    have := Jvm.Free.Multi.fill_inner (T.setVm vm₁) (A 4) (A 0) x.toNatClampNeg y.toNatClampNeg (defaultValue .int) x.toNatClampNeg j hj
    rw [hF, hTh] at this
    rw [this]
    show some ({ cls := A 0, slots := Array.replicate y.toNatClampNeg (.int 0), vm := .none } : Cell) = _
    rw [arrV_new]
  have vro : ∀ i : Nat, Jvm.Free.Multi.outerC (A 4) x.toNatClampNeg H.size i = arrV (A 4) x.toNatClampNeg (fun j => va_rf (if j < i then some (H.size + 1 + j) else none)) := by
    intro i
    induction i with
    | zero =>
      show ({ cls := A 4, slots := Array.replicate x.toNatClampNeg .null, vm := .none } : Cell) = _
      rw [arrV_new]
      refine congrArg (arrV (A 4) x.toNatClampNeg) (funext fun j => ?_)
      simp [va_rf]
    | succ i ih =>
      show (Jvm.Free.Multi.outerC (A 4) x.toNatClampNeg H.size i).setSlot i (.ref (H.size + 1 + i)) = _
      rw [ih, arrV_store]
      refine congrArg (arrV (A 4) x.toNatClampNeg) (funext fun j => ?_)
      by_cases q : j = i
      · subst q
        simp [updV, va_rf]
      · by_cases h : j < i
        · simp [updV, q, h, Nat.lt_succ_of_lt h]
        · simp [updV, q, h, show ¬ j < i + 1 by omega]
  rw [vro] at f2
  have hlt9 : ∀ (a : Nat) (z : ac_E), ah a = some z → a < H.size := fun a z h => (hR.2 a z h).2.lt
  have hfr : ∀ j, j ≤ x.toNatClampNeg → ah (H.size + j) = none := fun j hj => by
    cases hc : ah (H.size + j) with
    | none => rfl
    | some z => have := hlt9 _ _ hc; omega
  have hR1 : ac_Rep base D A (ac_mh ah H.size x.toNatClampNeg y.toNatClampNeg) F.heap := by
    refine ⟨by rw [f1]; have := hR.1; omega, fun a z hz => ?_⟩
    unfold ac_mh at hz
    by_cases q : a = H.size
    · subst q
      rw [if_pos rfl] at hz
      cases hz
      exact ⟨hR.1, f2⟩
    · rw [if_neg q] at hz
      by_cases q2 : H.size < a ∧ a ≤ H.size + x.toNatClampNeg
      · rw [if_pos q2] at hz
        cases hz
        obtain ⟨j, rfl⟩ : ∃ j, a = H.size + 1 + j := ⟨a - H.size - 1, by omega⟩
        exact ⟨by have := hR.1; omega, hrow j (by omega)⟩
      · rw [if_neg q2] at hz
        exact ⟨(hR.2 a z hz).1, (hR.2 a z hz).2.kept (hold a (hlt9 a z hz))⟩
  have hS1 : va_S (ac_B base) s.heap F.heap locs := ⟨by rw [f1]; have := hS.1; omega, fun z g1 g2 => (hold z (Nat.lt_of_lt_of_le g1 hS.1)).trans (hS.2.1 z g1 g2), hS.2.2⟩
  obtain ⟨t, a1, b1⟩ := h7 H.size hfr F.heap locs ls hR1 hS1 hL F rfl (stand_widen X' (by omega) (by omega))
  refine ⟨t, step t ?_, b1⟩
  have e9 : T.heap.size = H.size := by rw [hT]
  rw [e9]
  exact a1
end ACT
-- the entry
theorem ac_padv : ∀ {n : Nat} {K : ac_V → Prop}, ac_pad n K → K (List.replicate n none)
  | 0, K, h => h
  | n + 1, K, h => by
    have := ac_padv (n := n) (K := fun t => K (none :: t)) h
    exact this
theorem ac_entv : ∀ {as : List Value} {n : Nat} {K : ac_V → Prop}, ac_ent as n K → ∃ lv, K lv ∧ lv.length = n ∧ (lg_sl as).length ≤ n ∧ ∀ (i j : Nat) (w : Value), lv[j]? = some (some w) → (i + j, w) ∈ lv_args i as
  | [], n, K, h => by
    have h : ac_pad n K := by cases n <;> exact h
    refine ⟨_, ac_padv h, by simp, by simp [lg_sl], fun i j w hj => ?_⟩
    rw [List.getElem?_replicate] at hj
    split at hj <;> simp at hj
  | .int x :: t, n + 1, K, h => by
    obtain ⟨lv, h1, h2, h3, h4⟩ := ac_entv (as := t) (n := n) h
    refine ⟨some (.int x) :: lv, h1, by simp [h2], by simp [lg_sl, Value.category] at h3 ⊢; omega, fun i j w hj => ?_⟩
    match j, hj with
    | 0, hj =>
      have e : Value.int x = w := by simpa using hj
      subst e
      exact List.mem_cons_self
    | j + 1, hj =>
      have := h4 (i + 1) j w (by simpa using hj)
      rw [show i + 1 + j = i + (j + 1) by omega] at this
      exact List.mem_cons_of_mem _ this
  | .ref x :: t, n + 1, K, h => by
    obtain ⟨lv, h1, h2, h3, h4⟩ := ac_entv (as := t) (n := n) h
    refine ⟨some (.ref x) :: lv, h1, by simp [h2], by simp [lg_sl, Value.category] at h3 ⊢; omega, fun i j w hj => ?_⟩
    match j, hj with
    | 0, hj =>
      have e : Value.ref x = w := by simpa using hj
      subst e
      exact List.mem_cons_self
    | j + 1, hj =>
      have := h4 (i + 1) j w (by simpa using hj)
      rw [show i + 1 + j = i + (j + 1) by omega] at this
      exact List.mem_cons_of_mem _ this
  | .null :: t, n + 1, K, h => by
    obtain ⟨lv, h1, h2, h3, h4⟩ := ac_entv (as := t) (n := n) h
    refine ⟨some .null :: lv, h1, by simp [h2], by simp [lg_sl, Value.category] at h3 ⊢; omega, fun i j w hj => ?_⟩
    match j, hj with
    | 0, hj =>
      have e : Value.null = w := by simpa using hj
      subst e
      exact List.mem_cons_self
    | j + 1, hj =>
      have := h4 (i + 1) j w (by simpa using hj)
      rw [show i + 1 + j = i + (j + 1) by omega] at this
      exact List.mem_cons_of_mem _ this
  | .long x :: t, n + 2, K, h => by
    obtain ⟨lv, h1, h2, h3, h4⟩ := ac_entv (as := t) (n := n) h
    refine ⟨some (.long x) :: none :: lv, h1, by simp [h2], by simp [lg_sl, Value.category] at h3 ⊢; omega, fun i j w hj => ?_⟩
    match j, hj with
    | 0, hj =>
      have e : Value.long x = w := by simpa using hj
      subst e
      exact List.mem_cons_self
    | 1, hj => simp at hj
    | j + 2, hj =>
      have := h4 (i + 2) j w (by simpa using hj)
      rw [show i + 2 + j = i + (j + 2) by omega] at this
      exact List.mem_cons_of_mem _ this
  | .long x :: t, 1, K, h => False.elim h
  | .long x :: t, 0, K, h => False.elim h
  | .int x :: t, 0, K, h => False.elim h
  | .ref x :: t, 0, K, h => False.elim h
  | .null :: t, 0, K, h => False.elim h
  | .float x :: t, n, K, h => by cases n <;> first | exact False.elim h | (rename_i n; cases n <;> exact False.elim h)
  | .double x :: t, n, K, h => by cases n <;> first | exact False.elim h | (rename_i n; cases n <;> exact False.elim h)
  | .retAddr x :: t, n, K, h => by cases n <;> first | exact False.elim h | (rename_i n; cases n <;> exact False.elim h)
theorem ac_lkv {code : List (Nat × ac_op)} {pc : Nat} {P : ac_P} {Q : ac_Q} {lv : ac_V} {st : List Value} {ah : ac_H} {k n : Nat} (h : ac_lk code pc P Q lv st ah k n) : ∃ op, (pc, op) ∈ code ∧ op P Q lv st ah k n := by
  induction code with
  | nil => exact False.elim h
  | cons x t ih =>
    have h : cond (Nat.beq x.1 pc) x.2 (ac_lk t pc) P Q lv st ah k n := h
    cases hc : Nat.beq x.1 pc with
    | true =>
      rw [hc] at h
      have e := Nat.eq_of_beq_eq_true hc
      subst e
      exact ⟨x.2, List.mem_cons_self, h⟩
    | false =>
      rw [hc] at h
      obtain ⟨op, h1, h2⟩ := ih h
      exact ⟨op, List.mem_cons_of_mem _ h1, h2⟩
/-- the walk of a method's body -/
theorem ac_body {M : ac_D} {scr : Nat → Nat → (Nat → Int32) → Prop} {code : List (Nat × ac_op)} {p : Program} {l : Launch} {e : Env} {s : State} {m : MethodId} {below : List Frame} {meth : Method} {c : Code} {base : Nat} {D : va_G} {A : Nat → ClassId} {as : List Value} {ah : ac_H} {Q : ac_Q} (hso : ∀ x ∈ code, ac_So M scr x.1 x.2) (G : ac_G l p s m as.toArray meth c M base D A scr) (hR : ac_Rep base D A ah s.heap) (hT : ac_vc code M.2.2.2.1 as ah Q) :
    W p l e M.2.2.2.2.2.2 s m as.toArray below meth c s.heap [] 0 0 (vx_MQ below (ac_Qc base D A Q) (ac_XC base D A Q) as.toArray s M.2.2.2.2.2.2.cells M.2.2.2.2.2.2.slots (ac_B base)) (entryFrame m as.toArray M.2.2.2.1) := by
  have h := hT (ac_W p l e s m as.toArray below meth c M.2.2.2.1 M.2.2.2.2.2.2 base D A Q) (fun pc lv st h k n hl => by
    obtain ⟨op, h1, h2⟩ := ac_lkv hl
    exact hso _ h1 p l e s m as.toArray below meth c base D A Q G lv st h k n h2)
  obtain ⟨lv, h1, h2, h3, h4⟩ := ac_entv h
  have hl := lv_entry as (n := M.2.2.2.1) h3
  rw [lg_entry_eq]
  exact h1 s.heap [] _ hR va_S.rf ⟨hl.1, hl.2.1, h2, fun j w hj => by
    have := h4 0 j w hj
    rw [Nat.zero_add] at this
    exact hl.2.2 (j, w) this⟩
theorem ac_meth {y : MethodName} {M : ac_D} {code : List (Nat × ac_op)} (hy : plainName y.cls = true) (hown : M.1 = y.cls) (hmn : M.2.1 = y.name) (h0 : M.2.2.2.2.2.1 = []) (hw : ac_ws y M = Cond.code y M.2.2.1 M.2.2.2.1 M.2.2.2.2.1 :: ac_gw) (hso : ∀ x ∈ code, ac_So M (fun _ _ _ => False) x.1 x.2) : ac_Ct y M (ac_vc code M.2.2.2.1) := by
  intro l base D A as ah Q hl hT
  refine vx_ofW (cc := M.2.2.1) (maxL := M.2.2.2.1) (ret := M.2.2.2.2.1) hy hw ?_
  intro p e s m args below meth c s₁ B hml hex hv
  obtain ⟨rfl, hR, hK, hbs⟩ := hv
  have hts := atoms_spec (ws := ac_ws y M) B.pre
  refine ac_body (scr := fun _ _ _ => False) hso ⟨hl, B.exec, B.bytes, hml, B.returns, by rw [hown]; exact findClass_of_methodNamed B.named, fun w hw' => hts w (List.mem_cons_of_mem _ hw'), B.notSynchronized, ?_, hK, hbs, by rw [hmn]; exact (name_of_methodNamed B.named B.method).1, fun _ _ _ h => False.elim h⟩ hR hT
  rw [h0]
  exact List.eq_nil_iff_forall_not_mem.mpr (fun x hx => hex x hx)
theorem ac_methH {y : MethodName} {M : ac_D} {code : List (Nat × ac_op)} (hy : plainName y.cls = true) (hown : M.1 = y.cls) (hmn : M.2.1 = y.name) (hw : ac_ws y M = Cond.codeWith y M.2.2.1 M.2.2.2.1 M.2.2.2.2.1 M.2.2.2.2.2.1 :: ac_gw) (hso : ∀ x ∈ code, ac_So M (fun _ _ _ => False) x.1 x.2) : ac_Ct y M (ac_vc code M.2.2.2.1) := by
  intro l base D A as ah Q hl hT
  refine vx_ofWH (cc := M.2.2.1) (maxL := M.2.2.2.1) (ret := M.2.2.2.2.1) (hh := M.2.2.2.2.2.1) hy hw ?_
  intro p e s m args below meth c s₁ B hml hv
  obtain ⟨rfl, hR, hK, hbs⟩ := hv
  have hts := atoms_spec (ws := ac_ws y M) B.pre
  exact ac_body (scr := fun _ _ _ => False) hso ⟨hl, B.exec, B.bytes, hml, B.returns, by rw [hown]; exact findClass_of_methodNamed B.named, fun w hw' => hts w (List.mem_cons_of_mem _ hw'), B.notSynchronized, vx_table (x := y) B (hts _ (by rw [hw]; exact List.mem_cons_self)), hK, hbs, by rw [hmn]; exact (name_of_methodNamed B.named B.method).1, fun _ _ _ h => False.elim h⟩ hR hT
end
section
/-! ===== the JDK's copy of a row of longs ===== -/
def op_cloneJ (R : Room) (nx : Nat) : ac_op := fun P _ lv st h k n => ac_a1 st (fun a r => r = [] ∧ ∃ (z : Nat) (f : Nat → Int64) (w : Nat), h a = some (.inr (2, z, .inr (.inl f))) ∧ z ≤ w ∧ k + 1 ≤ R.cells ∧ n + w ≤ R.slots ∧ ∀ q : Nat, h q = none → P nx lv [.ref q] (ac_hs h q (.inr (2, z, .inr (.inl f)))) (k + 1) (n + w))
def op_castJ (nx : Nat) : ac_op := fun P _ lv st h k n => ac_a1 st (fun a r => ∃ (z : Nat) (f : Nat → Int64), h a = some (.inr (2, z, .inr (.inl f))) ∧ P nx lv (.ref a :: r) h k n)
def op_copyJ (nx : Nat) : ac_op := fun P _ lv st h k n => ac_i1 st (fun m r => ac_i1 r (fun dp r => ac_a1 r (fun a r => ac_i1 r (fun sp r => ac_a1 r (fun a0 r => r = [] ∧ ∃ (z0 z1 : Nat) (f g : Nat → Int64), h a0 = some (.inr (2, z0, .inr (.inl f))) ∧ h a = some (.inr (2, z1, .inr (.inl g))) ∧ ¬ sp < 0 ∧ ¬ dp < 0 ∧ ¬ m < 0 ∧ sp.toNatClampNeg + m.toNatClampNeg ≤ z0 ∧ dp.toNatClampNeg + m.toNatClampNeg ≤ z1 ∧ P nx lv [] (ac_hs h a (.inr (2, z1, .inr (.inl (va_cpy f g sp.toNatClampNeg dp.toNatClampNeg m.toNatClampNeg))))) k n)))))
def op_min (R : Room) (nx : Nat) : ac_op := fun P _ lv st h k n => ac_i1 st (fun y r => ac_i1 r (fun x r => r.length ≤ 4 ∧ k ≤ R.cells ∧ n ≤ R.slots ∧ P nx lv (.int (if y < x then y else x) :: r) h k n))
section ACJ
variable {M : ac_D} {scr : Nat → Nat → (Nat → Int32) → Prop} {pc nx idx : Nat}
theorem so_cloneJ (hd : decode M.2.2.1 pc = .ok (.invokevirtual idx, 3)) (hw : Cond.methodLink M.1 idx ⟨"[J", "clone", "()Ljava/lang/Object;"⟩ ∈ ac_gw) (hw2 : ∀ w ∈ [Cond.sameMethod "[J" "java/lang/Object" "clone" "()Ljava/lang/Object;", .native ⟨"java/lang/Object", "clone", "()Ljava/lang/Object;"⟩, .instanceMethod ⟨"java/lang/Object", "clone", "()Ljava/lang/Object;"⟩, .selects "[J" ⟨"[J", "clone", "()Ljava/lang/Object;"⟩ ⟨"java/lang/Object", "clone", "()Ljava/lang/Object;"⟩], w ∈ ac_gw) (hw3 : Cond.castable "[J" "java/lang/Cloneable" ∈ ac_ng) (hRm : 1 ≤ M.2.2.2.2.2.2.frames ∧ 14 ≤ M.2.2.2.2.2.2.locals) (hn : pc + 3 = nx) : ac_So M scr pc (op_cloneJ M.2.2.2.2.2.2 nx) := by
  subst hn
  intro p l e s m args below meth c base D A Q G lv st ah k n h H locs ls hR hS hL
  obtain ⟨hlt, hx, hb, hml, hr, hown, hts, hlk, htab, hK, hbs, hmn, hsc⟩ := G
  obtain ⟨a, r, rfl, rfl, z, f, w, h1, h2, h3, h4, h5⟩ := ac_a1v h
  obtain ⟨ws, hP, hD, hin1, -⟩ := ac_fullR hR
  obtain ⟨q0, hq⟩ := hin1 a _ h1
  refine va_clone (D := D) hx hb (hml.trans hL.1.symm) hown (hts _ hw) (hts _ (hw2 _ (by simp))) (hts _ (hw2 _ (by simp))) (hts _ (hw2 _ (by simp))) (hts _ (hw2 _ (by simp))) (hK.2.2.2.2.2.1 _ hw3) hK.1 hP hD hS (ac_newA hbs) q0 2 hq rfl (hK.1.2 2 _ rfl).2 (va_fit (F := fun j => .long (f j)) (fun i hi => rfl)) hRm.1 (by simpa using hRm.2) h3 (by show n + z ≤ _; omega) hd (fun q H1 hK1 hP1 hD1 hS1 => ?_)
  obtain ⟨q1, q2⟩ := ac_appR (.inr (2, z, .inr (.inl f))) hin1 (ac_baseS hbs hS1) hD1 hP1
  refine W.widen (k := k + 1) (n := n + w) (Nat.le_refl _) (by show n + z ≤ _; omega) ?_
  exact h5 q q1 H1 locs ls q2 hS1 hL
theorem so_castJ (hd : decode M.2.2.1 pc = .ok (.checkcast idx, 3)) (hw : Cond.classLink M.1 idx "[J" ∈ ac_gw) (hn : pc + 3 = nx) : ac_So M scr pc (op_castJ nx) := by
  subst hn
  intro p l e s m args below meth c base D A Q G lv st ah k n h H locs ls hR hS hL
  obtain ⟨hlt, hx, hb, hml, hr, hown, hts, hlk, htab, hK, hbs, hmn, hsc⟩ := G
  obtain ⟨a, r, rfl, z, f, h1, h2⟩ := ac_a1v h
  obtain ⟨ws, hP, hD, hin1, -⟩ := ac_fullR hR
  obtain ⟨q0, hq⟩ := hin1 a _ h1
  exact va_castA (D := D) hx hb hown (hts _ hw) hP q0 hq (hK.1.2 2 _ rfl).2 hd (h2 H locs ls hR hS hL)
theorem so_copyJ (hd : decode M.2.2.1 pc = .ok (.invokestatic idx, 3)) (hw : Cond.methodLink M.1 idx arraycopyName ∈ ac_gw) (hw2 : ∀ w ∈ [Cond.native arraycopyName, .static arraycopyName, .initialized "java/lang/System"], w ∈ ac_gw) (hRm : 1 ≤ M.2.2.2.2.2.2.frames ∧ nativeFrameWords "java/lang/System" "arraycopy" 5 + 11 ≤ M.2.2.2.2.2.2.locals) (hn : pc + 3 = nx) : ac_So M scr pc (op_copyJ nx) := by
  subst hn
  intro p l e s m args below meth c base D A Q G lv st ah k n h H locs ls hR hS hL
  obtain ⟨hlt, hx, hb, hml, hr, hown, hts, hlk, htab, hK, hbs, hmn, hsc⟩ := G
  obtain ⟨mm, r1, rfl, g1⟩ := ac_i1v h
  obtain ⟨dp, r2, rfl, g2⟩ := ac_i1v g1
  obtain ⟨a, r3, rfl, g3⟩ := ac_a1v g2
  obtain ⟨sp, r4, rfl, g4⟩ := ac_i1v g3
  obtain ⟨a0, r, rfl, rfl, z0, z1, f, g, h1, h2, h3, h4, h5, h6, h7, h8⟩ := ac_a1v g4
  obtain ⟨ws, hP, hD, hin1, -⟩ := ac_fullR hR
  obtain ⟨q0, hq0⟩ := hin1 a0 _ h1
  obtain ⟨q1, hq1⟩ := hin1 a _ h2
  exact va_copyl (D := D) hx hb (hml.trans hL.1.symm) hown (hts _ hw) (hts _ (hw2 _ (by simp))) (hts _ (hw2 _ (by simp))) (hts _ (hw2 _ (by simp))) hK.1 hP hD hS q0 q1 2 2 hq0 hq1 rfl rfl rfl h3 h4 h5 h6 h7 (fun _ _ => rfl) hRm.1 (by simpa using hRm.2) hd (fun H1 locs1 hP1 hD1 hS1 => h8 H1 locs1 ls (ac_setR (.inr (2, z1, .inr (.inl (va_cpy f g sp.toNatClampNeg dp.toNatClampNeg mm.toNatClampNeg)))) hD hin1 hq1 (ac_baseS hbs hS1) hP1) hS1 hL)
theorem so_min (hd : decode M.2.2.1 pc = .ok (.invokestatic idx, 3)) (hw : Cond.methodLink M.1 idx Lib.Math.min.name ∈ ac_gw) (hw2 : ∀ w ∈ [Cond.static Lib.Math.min.name, .initialized "java/lang/Math", .code Lib.Math.min.name Lib.Math.min.code 2 (some .int)], w ∈ ac_gw) (hRm : 1 ≤ M.2.2.2.2.2.2.frames ∧ 21 ≤ M.2.2.2.2.2.2.locals) (hn : pc + 3 = nx) : ac_So M scr pc (op_min M.2.2.2.2.2.2 nx) := by
  subst hn
  intro p l e s m args below meth c base D A Q G lv st ah k n h H locs ls hR hS hL
  obtain ⟨hlt, hx, hb, hml, hr, hown, hts, hlk, htab, hK, hbs, hmn, hsc⟩ := G
  obtain ⟨y, r1, rfl, g1⟩ := ac_i1v h
  obtain ⟨x, r, rfl, h4, h5, h6, h7⟩ := ac_i1v g1
  exact va_mmin hx hb (hml.trans hL.1.symm) hown (hts _ hw) (hts _ (hw2 _ (by simp))) (hts _ (hw2 _ (by simp))) (hts _ (hw2 _ (by simp))) hRm.1 (by have := ac_room h4; have := hRm.2; omega) h5 h6 hd (h7 H locs ls hR hS hL)
theorem ac_mw2 : ∀ w ∈ [Cond.static Lib.Math.min.name, .initialized "java/lang/Math", .code Lib.Math.min.name Lib.Math.min.code 2 (some .int)], w ∈ ac_gw := by decide +kernel
end ACJ
end
section
/-! ===== the words that the code needs, by their places ===== -/
theorem ac_in {w : Cond} (i : Nat) (h : lw_tbl[i]? = some w) (hg : goodWord w = true) : w ∈ ac_gw := List.mem_filter.mpr ⟨List.mem_of_getElem? h, hg⟩
theorem ac_inN {w : Cond} (i : Nat) (h : lw_tbl[i]? = some w) (hg : ac_ngw w = true) : w ∈ ac_ng := List.mem_filter.mpr ⟨List.mem_of_getElem? h, hg⟩
theorem ac_cons {M : ac_D} {scr : Nat → Nat → (Nat → Int32) → Prop} {pc : Nat} {op : ac_op} {t : List (Nat × ac_op)} (h : ac_So M scr pc op) (ht : ∀ x ∈ t, ac_So M scr x.1 x.2) : ∀ x ∈ (pc, op) :: t, ac_So M scr x.1 x.2 := List.forall_mem_cons.mpr ⟨h, ht⟩
theorem ac_nil {M : ac_D} {scr : Nat → Nat → (Nat → Int32) → Prop} : ∀ x ∈ ([] : List (Nat × ac_op)), ac_So M scr x.1 x.2 := fun _ h => by cases h
theorem ac_cons4 {α : Type} {P : α → Prop} {a b c d : α} (h1 : P a) (h2 : P b) (h3 : P c) (h4 : P d) : ∀ q ∈ [a, b, c, d], P q := by
  intro q hq
  simp only [List.mem_cons, List.not_mem_nil, or_false] at hq
  rcases hq with rfl | rfl | rfl | rfl
  · exact h1
  · exact h2
  · exact h3
  · exact h4
theorem in_X0 : ∀ w ∈ u_ws RX0 TX0 1, w ∈ ac_gw := by decide +kernel
theorem df_X0 : ∀ j, j < 1 → defaultValue (tyX0 j) = vp_V (ac_fr 4) j := by decide +kernel
theorem in_X2 : ∀ w ∈ u_ws RX2 TX2 2, w ∈ ac_gw := by decide +kernel
theorem df_X2 : ∀ j, j < 2 → defaultValue (tyX2 j) = vp_V (ac_fr 5) j := by decide +kernel
theorem in_X3 : ∀ w ∈ u_ws RX3 TX3 3, w ∈ ac_gw := by decide +kernel
theorem df_X3 : ∀ j, j < 3 → defaultValue (tyX3 j) = vp_V (ac_fr 6) j := by decide +kernel
theorem in_X4 : ∀ w ∈ u_ws RX4 TX4 3, w ∈ ac_gw := by decide +kernel
theorem df_X4 : ∀ j, j < 3 → defaultValue (tyX4 j) = vp_V (ac_fr 7) j := by decide +kernel
theorem in_X5 : ∀ w ∈ u_ws RX5 TX5 2, w ∈ ac_gw := by decide +kernel
theorem df_X5 : ∀ j, j < 2 → defaultValue (tyX5 j) = vp_V (ac_fr 8) j := by decide +kernel
theorem in_X6 : ∀ w ∈ u_ws RX6 TX6 12, w ∈ ac_gw := by decide +kernel
theorem df_X6 : ∀ j, j < 12 → defaultValue (tyX6 j) = vp_V (ac_fr 9) j := by decide +kernel
theorem at_N : ∀ w ∈ vx_atN 8, w ∈ ac_gw ∨ w ∈ ac_ng := by decide +kernel
theorem at_M3 : ∀ w ∈ vx_atM "java/lang/ArrayIndexOutOfBoundsException" ["java/lang/IndexOutOfBoundsException", "java/lang/RuntimeException", "java/lang/Exception"], w ∈ ac_gw ∨ w ∈ ac_ng := by decide +kernel
theorem at_M4 : ∀ w ∈ vx_atM "java/lang/NegativeArraySizeException" ["java/lang/RuntimeException", "java/lang/Exception"], w ∈ ac_gw ∨ w ∈ ac_ng := by decide +kernel
theorem wd_2 : Cond.selects "TypedHall" yX5_holdNew yX5_holdNew ∈ ac_gw := ac_in 2 (by decide +kernel) (by decide +kernel)
theorem wd_3 : Cond.selects "TypedHall" yX5_itemIn yX5_itemIn ∈ ac_gw := ac_in 3 (by decide +kernel) (by decide +kernel)
theorem wd_4 : Cond.selects "TypedHall$VectorItem" yX3_firstItems yX3_firstItems ∈ ac_gw := ac_in 4 (by decide +kernel) (by decide +kernel)
theorem wd_5 : Cond.selects "TypedHall" yX5_gridIn yX5_gridIn ∈ ac_gw := ac_in 5 (by decide +kernel) (by decide +kernel)
theorem wd_6 : Cond.selects "TypedHall" yX5_recordOrNone yX5_recordOrNone ∈ ac_gw := ac_in 6 (by decide +kernel) (by decide +kernel)
theorem wd_7 : Cond.selects "TypedHall" yX5_recordIn yX5_recordIn ∈ ac_gw := ac_in 7 (by decide +kernel) (by decide +kernel)
theorem wd_8 : Cond.selects "TypedHallModel" yX6_good yX6_good ∈ ac_gw := ac_in 8 (by decide +kernel) (by decide +kernel)
theorem wd_9 : Cond.selects "TypedHallModel" yX6_fresh yX6_fresh ∈ ac_gw := ac_in 9 (by decide +kernel) (by decide +kernel)
theorem wd_10 : Cond.selects "TypedHallModel" yX6_known yX6_known ∈ ac_gw := ac_in 10 (by decide +kernel) (by decide +kernel)
theorem wd_11 : Cond.selects "TypedHallModel" yX6_windows yX6_windows ∈ ac_gw := ac_in 11 (by decide +kernel) (by decide +kernel)
theorem wd_12 : Cond.selects "TypedHallModel" yX6_reach yX6_reach ∈ ac_gw := ac_in 12 (by decide +kernel) (by decide +kernel)
theorem wd_13 : Cond.selects "TypedHallModel" yX6_sort yX6_sort ∈ ac_gw := ac_in 13 (by decide +kernel) (by decide +kernel)
theorem wd_14 : Cond.selects "TypedHallModel" yX6_bottom yX6_bottom ∈ ac_gw := ac_in 14 (by decide +kernel) (by decide +kernel)
theorem wd_15 : Cond.selects "TypedHallModel" yX6_find yX6_find ∈ ac_gw := ac_in 15 (by decide +kernel) (by decide +kernel)
theorem wd_16 : Cond.selects "TypedHallModel" yX6_here yX6_here ∈ ac_gw := ac_in 16 (by decide +kernel) (by decide +kernel)
theorem wd_17 : Cond.selects "TypedHallModel" yX6_set yX6_set ∈ ac_gw := ac_in 17 (by decide +kernel) (by decide +kernel)
theorem wd_18 : Cond.selects "TypedHallModel" yX6_row yX6_row ∈ ac_gw := ac_in 18 (by decide +kernel) (by decide +kernel)
theorem wd_19 : Cond.selects "TypedHallModel" yX6_column yX6_column ∈ ac_gw := ac_in 19 (by decide +kernel) (by decide +kernel)
theorem wd_20 : Cond.selects "TypedHallModel" yX6_reachItem yX6_reachItem ∈ ac_gw := ac_in 20 (by decide +kernel) (by decide +kernel)
theorem wd_21 : Cond.selects "TypedHallModel" yX6_isRecord yX6_isRecord ∈ ac_gw := ac_in 21 (by decide +kernel) (by decide +kernel)
theorem wd_22 : Cond.selects "TypedHallModel" yX6_both yX6_both ∈ ac_gw := ac_in 22 (by decide +kernel) (by decide +kernel)
theorem wd_23 : Cond.initialized "TypedHallLaw" ∈ ac_gw := ac_in 23 (by decide +kernel) (by decide +kernel)
theorem wd_24 : Cond.initialized "TypedHall" ∈ ac_gw := ac_in 24 (by decide +kernel) (by decide +kernel)
theorem wd_25 : Cond.initialized "TypedHallModel" ∈ ac_gw := ac_in 25 (by decide +kernel) (by decide +kernel)
theorem wd_32 : Cond.initialized "TypedHall$Item" ∈ ac_gw := ac_in 32 (by decide +kernel) (by decide +kernel)
theorem wd_33 : Cond.initialized "TypedHall$VectorItem" ∈ ac_gw := ac_in 33 (by decide +kernel) (by decide +kernel)
theorem wd_34 : Cond.initialized "TypedHall$GridItem" ∈ ac_gw := ac_in 34 (by decide +kernel) (by decide +kernel)
theorem wd_35 : Cond.initialized "TypedHall$RecordItem" ∈ ac_gw := ac_in 35 (by decide +kernel) (by decide +kernel)
theorem wd_39 : Cond.initialized "TypedHall$WindowItem" ∈ ac_gw := ac_in 39 (by decide +kernel) (by decide +kernel)
theorem wd_43 : Cond.initialized "java/util/Arrays" ∈ ac_gw := ac_in 43 (by decide +kernel) (by decide +kernel)
theorem wd_46 : Cond.classLink "TypedHallLaw" 8 "TypedHall" ∈ ac_gw := ac_in 46 (by decide +kernel) (by decide +kernel)
theorem wd_47 : Cond.instantiable "TypedHall" 2 ∈ ac_gw := ac_in 47 (by decide +kernel) (by decide +kernel)
theorem wd_48 : Cond.methodLink "TypedHallLaw" 96 yX5_init ∈ ac_gw := ac_in 48 (by decide +kernel) (by decide +kernel)
theorem wd_49 : Cond.instanceMethod yX5_init ∈ ac_gw := ac_in 49 (by decide +kernel) (by decide +kernel)
theorem wd_50 : Cond.code yX5_init prog_1_method_1_code 1 none ∈ ac_gw := ac_in 50 (by decide +kernel) (by decide +kernel)
theorem wd_51 : Cond.methodLink "TypedHall" 1 ⟨"java/lang/Object", "<init>", "()V"⟩ ∈ ac_gw := ac_in 51 (by decide +kernel) (by decide +kernel)
theorem wd_52 : Cond.instanceMethod ⟨"java/lang/Object", "<init>", "()V"⟩ ∈ ac_gw := ac_in 52 (by decide +kernel) (by decide +kernel)
theorem wd_53 : Cond.code ⟨"java/lang/Object", "<init>", "()V"⟩ object_method_1_code 1 none ∈ ac_gw := ac_in 53 (by decide +kernel) (by decide +kernel)
theorem wd_54 : Cond.classLink "TypedHall" 9 "TypedHall$Item" ∈ ac_gw := ac_in 54 (by decide +kernel) (by decide +kernel)
theorem wd_56 : Cond.fieldLink "TypedHall" 11 "TypedHall" "held" "[LTypedHall$Item;" ∈ ac_gw := ac_in 56 (by decide +kernel) (by decide +kernel)
theorem wd_57 : Cond.fieldLink "TypedHall" 15 "TypedHall" "made" "I" ∈ ac_gw := ac_in 57 (by decide +kernel) (by decide +kernel)
theorem wd_63 : Cond.methodLink "TypedHallLaw" 100 yL_make ∈ ac_gw := ac_in 63 (by decide +kernel) (by decide +kernel)
theorem wd_64 : Cond.static yL_make ∈ ac_gw := ac_in 64 (by decide +kernel) (by decide +kernel)
theorem wd_65 : Cond.codeWith yL_make method_3_code 6 (some FieldType.int) [(0, 12, 15, 13), (0, 12, 19, 15)] ∈ ac_gw := ac_in 65 (by decide +kernel) (by decide +kernel)
theorem wd_152 : Cond.methodLink "TypedHallLaw" 7 yX5_make ∈ ac_gw := ac_in 152 (by decide +kernel) (by decide +kernel)
theorem wd_153 : Cond.instanceMethod yX5_make ∈ ac_gw := ac_in 153 (by decide +kernel) (by decide +kernel)
theorem wd_154 : Cond.selects "TypedHall" yX5_make yX5_make ∈ ac_gw := ac_in 154 (by decide +kernel) (by decide +kernel)
theorem wd_155 : Cond.code yX5_make prog_1_method_2_code 4 (some FieldType.int) ∈ ac_gw := ac_in 155 (by decide +kernel) (by decide +kernel)
theorem wd_156 : Cond.methodLink "TypedHall" 19 yX5_requireRegister ∈ ac_gw := ac_in 156 (by decide +kernel) (by decide +kernel)
theorem wd_157 : Cond.static yX5_requireRegister ∈ ac_gw := ac_in 157 (by decide +kernel) (by decide +kernel)
theorem wd_158 : Cond.code yX5_requireRegister prog_1_method_35_code 1 none ∈ ac_gw := ac_in 158 (by decide +kernel) (by decide +kernel)
theorem wd_159 : Cond.methodLink "TypedHall" 23 yX5_requireArgument ∈ ac_gw := ac_in 159 (by decide +kernel) (by decide +kernel)
theorem wd_160 : Cond.static yX5_requireArgument ∈ ac_gw := ac_in 160 (by decide +kernel) (by decide +kernel)
theorem wd_161 : Cond.code yX5_requireArgument prog_1_method_36_code 1 none ∈ ac_gw := ac_in 161 (by decide +kernel) (by decide +kernel)
theorem wd_183 : Cond.methodLink "TypedHall" 27 yX5_requireSize ∈ ac_gw := ac_in 183 (by decide +kernel) (by decide +kernel)
theorem wd_184 : Cond.static yX5_requireSize ∈ ac_gw := ac_in 184 (by decide +kernel) (by decide +kernel)
theorem wd_185 : Cond.code yX5_requireSize prog_1_method_42_code 2 none ∈ ac_gw := ac_in 185 (by decide +kernel) (by decide +kernel)
theorem wd_186 : Cond.classLink "TypedHall" 30 "TypedHall$VectorItem" ∈ ac_gw := ac_in 186 (by decide +kernel) (by decide +kernel)
theorem wd_187 : Cond.instantiable "TypedHall$VectorItem" 3 ∈ ac_gw := ac_in 187 (by decide +kernel) (by decide +kernel)
theorem wd_188 : Cond.methodLink "TypedHall" 32 yX3_init ∈ ac_gw := ac_in 188 (by decide +kernel) (by decide +kernel)
theorem wd_189 : Cond.instanceMethod yX3_init ∈ ac_gw := ac_in 189 (by decide +kernel) (by decide +kernel)
theorem wd_190 : Cond.code yX3_init prog_5_method_1_code 3 none ∈ ac_gw := ac_in 190 (by decide +kernel) (by decide +kernel)
theorem wd_191 : Cond.methodLinkNest "TypedHall$VectorItem" 3 yX1_init "TypedHall" ∈ ac_ng := ac_inN 191 (by decide +kernel) (by decide +kernel)
theorem wd_192 : Cond.instanceMethod yX1_init ∈ ac_gw := ac_in 192 (by decide +kernel) (by decide +kernel)
theorem wd_193 : Cond.code yX1_init prog_3_method_1_code 1 none ∈ ac_gw := ac_in 193 (by decide +kernel) (by decide +kernel)
theorem wd_194 : Cond.methodLink "TypedHall$Item" 1 ⟨"java/lang/Object", "<init>", "()V"⟩ ∈ ac_gw := ac_in 194 (by decide +kernel) (by decide +kernel)
theorem wd_195 : Cond.classLink "TypedHall$VectorItem" 4 "TypedHall$Item" ∈ ac_gw := ac_in 195 (by decide +kernel) (by decide +kernel)
theorem wd_196 : Cond.fieldLink "TypedHall$VectorItem" 9 "TypedHall$VectorItem" "sort" "I" ∈ ac_gw := ac_in 196 (by decide +kernel) (by decide +kernel)
theorem wd_197 : Cond.fieldLinkNest "TypedHall$WindowItem" 20 "TypedHall$VectorItem" "sort" "I" "TypedHall" ∈ ac_ng := ac_inN 197 (by decide +kernel) (by decide +kernel)
theorem wd_198 : Cond.fieldLinkNest "TypedHall" 160 "TypedHall$VectorItem" "sort" "I" "TypedHall" ∈ ac_ng := ac_inN 198 (by decide +kernel) (by decide +kernel)
theorem wd_199 : Cond.fieldLink "TypedHall$VectorItem" 19 "TypedHall$VectorItem" "numbers" "[J" ∈ ac_gw := ac_in 199 (by decide +kernel) (by decide +kernel)
theorem wd_200 : Cond.fieldLinkNest "TypedHall" 156 "TypedHall$VectorItem" "numbers" "[J" "TypedHall" ∈ ac_ng := ac_inN 200 (by decide +kernel) (by decide +kernel)
theorem wd_201 : Cond.fieldLink "TypedHall$VectorItem" 15 "TypedHall$VectorItem" "items" "[LTypedHall$Item;" ∈ ac_gw := ac_in 201 (by decide +kernel) (by decide +kernel)
theorem wd_202 : Cond.fieldLinkNest "TypedHall" 131 "TypedHall$VectorItem" "items" "[LTypedHall$Item;" "TypedHall" ∈ ac_ng := ac_inN 202 (by decide +kernel) (by decide +kernel)
theorem wd_210 : Cond.arrayClass FieldType.int ∈ ac_gw := ac_in 210 (by decide +kernel) (by decide +kernel)
theorem wd_211 : Cond.arrayClass FieldType.long ∈ ac_gw := ac_in 211 (by decide +kernel) (by decide +kernel)
theorem wd_212 : Cond.methodLink "TypedHall" 35 yX5_holdNew ∈ ac_gw := ac_in 212 (by decide +kernel) (by decide +kernel)
theorem wd_214 : Cond.instanceMethod yX5_holdNew ∈ ac_gw := ac_in 214 (by decide +kernel) (by decide +kernel)
theorem wd_215 : Cond.code yX5_holdNew prog_1_method_22_code 3 (some FieldType.int) ∈ ac_gw := ac_in 215 (by decide +kernel) (by decide +kernel)
theorem wd_216 : Cond.methodLink "TypedHallLaw" 110 yL_grid ∈ ac_gw := ac_in 216 (by decide +kernel) (by decide +kernel)
theorem wd_217 : Cond.static yL_grid ∈ ac_gw := ac_in 217 (by decide +kernel) (by decide +kernel)
theorem wd_218 : Cond.codeWith yL_grid method_4_code 6 (some FieldType.int) [(0, 12, 15, 13), (0, 12, 19, 15)] ∈ ac_gw := ac_in 218 (by decide +kernel) (by decide +kernel)
theorem wd_219 : Cond.methodLink "TypedHallLaw" 17 yX5_grid ∈ ac_gw := ac_in 219 (by decide +kernel) (by decide +kernel)
theorem wd_220 : Cond.instanceMethod yX5_grid ∈ ac_gw := ac_in 220 (by decide +kernel) (by decide +kernel)
theorem wd_221 : Cond.selects "TypedHall" yX5_grid yX5_grid ∈ ac_gw := ac_in 221 (by decide +kernel) (by decide +kernel)
theorem wd_222 : Cond.code yX5_grid prog_1_method_3_code 4 (some FieldType.int) ∈ ac_gw := ac_in 222 (by decide +kernel) (by decide +kernel)
theorem wd_223 : Cond.classLink "TypedHall" 39 "TypedHall$GridItem" ∈ ac_gw := ac_in 223 (by decide +kernel) (by decide +kernel)
theorem wd_224 : Cond.instantiable "TypedHall$GridItem" 1 ∈ ac_gw := ac_in 224 (by decide +kernel) (by decide +kernel)
theorem wd_225 : Cond.methodLink "TypedHall" 41 yX0_init ∈ ac_gw := ac_in 225 (by decide +kernel) (by decide +kernel)
theorem wd_226 : Cond.instanceMethod yX0_init ∈ ac_gw := ac_in 226 (by decide +kernel) (by decide +kernel)
theorem wd_227 : Cond.code yX0_init prog_2_method_1_code 3 none ∈ ac_gw := ac_in 227 (by decide +kernel) (by decide +kernel)
theorem wd_228 : Cond.methodLinkNest "TypedHall$GridItem" 3 yX1_init "TypedHall" ∈ ac_ng := ac_inN 228 (by decide +kernel) (by decide +kernel)
theorem wd_229 : Cond.classLink "TypedHall$GridItem" 9 "[[I" ∈ ac_gw := ac_in 229 (by decide +kernel) (by decide +kernel)
theorem wd_231 : Cond.fieldLink "TypedHall$GridItem" 11 "TypedHall$GridItem" "rows" "[[I" ∈ ac_gw := ac_in 231 (by decide +kernel) (by decide +kernel)
theorem wd_232 : Cond.fieldLinkNest "TypedHall" 94 "TypedHall$GridItem" "rows" "[[I" "TypedHall" ∈ ac_ng := ac_inN 232 (by decide +kernel) (by decide +kernel)
theorem wd_236 : Cond.methodLink "TypedHallLaw" 113 yL_record ∈ ac_gw := ac_in 236 (by decide +kernel) (by decide +kernel)
theorem wd_237 : Cond.static yL_record ∈ ac_gw := ac_in 237 (by decide +kernel) (by decide +kernel)
theorem wd_238 : Cond.codeWith yL_record method_5_code 4 (some FieldType.int) [(0, 9, 12, 13)] ∈ ac_gw := ac_in 238 (by decide +kernel) (by decide +kernel)
theorem wd_239 : Cond.methodLink "TypedHallLaw" 20 yX5_record ∈ ac_gw := ac_in 239 (by decide +kernel) (by decide +kernel)
theorem wd_240 : Cond.instanceMethod yX5_record ∈ ac_gw := ac_in 240 (by decide +kernel) (by decide +kernel)
theorem wd_241 : Cond.selects "TypedHall" yX5_record yX5_record ∈ ac_gw := ac_in 241 (by decide +kernel) (by decide +kernel)
theorem wd_242 : Cond.code yX5_record prog_1_method_4_code 2 (some FieldType.int) ∈ ac_gw := ac_in 242 (by decide +kernel) (by decide +kernel)
theorem wd_243 : Cond.classLink "TypedHall" 42 "TypedHall$RecordItem" ∈ ac_gw := ac_in 243 (by decide +kernel) (by decide +kernel)
theorem wd_244 : Cond.instantiable "TypedHall$RecordItem" 2 ∈ ac_gw := ac_in 244 (by decide +kernel) (by decide +kernel)
theorem wd_245 : Cond.methodLinkNest "TypedHall" 44 yX2_init "TypedHall" ∈ ac_ng := ac_inN 245 (by decide +kernel) (by decide +kernel)
theorem wd_246 : Cond.instanceMethod yX2_init ∈ ac_gw := ac_in 246 (by decide +kernel) (by decide +kernel)
theorem wd_247 : Cond.code yX2_init prog_4_method_1_code 1 none ∈ ac_gw := ac_in 247 (by decide +kernel) (by decide +kernel)
theorem wd_248 : Cond.methodLinkNest "TypedHall$RecordItem" 3 yX1_init "TypedHall" ∈ ac_ng := ac_inN 248 (by decide +kernel) (by decide +kernel)
theorem wd_249 : Cond.fieldLink "TypedHall$RecordItem" 9 "TypedHall$RecordItem" "number" "J" ∈ ac_gw := ac_in 249 (by decide +kernel) (by decide +kernel)
theorem wd_250 : Cond.fieldLinkNest "TypedHall" 145 "TypedHall$RecordItem" "number" "J" "TypedHall" ∈ ac_ng := ac_inN 250 (by decide +kernel) (by decide +kernel)
theorem wd_251 : Cond.fieldLink "TypedHall$RecordItem" 15 "TypedHall$RecordItem" "next" "LTypedHall$RecordItem;" ∈ ac_gw := ac_in 251 (by decide +kernel) (by decide +kernel)
theorem wd_252 : Cond.fieldLinkNest "TypedHall" 141 "TypedHall$RecordItem" "next" "LTypedHall$RecordItem;" "TypedHall" ∈ ac_ng := ac_inN 252 (by decide +kernel) (by decide +kernel)
theorem wd_258 : Cond.methodLink "TypedHallLaw" 117 yL_window ∈ ac_gw := ac_in 258 (by decide +kernel) (by decide +kernel)
theorem wd_259 : Cond.static yL_window ∈ ac_gw := ac_in 259 (by decide +kernel) (by decide +kernel)
theorem wd_260 : Cond.codeWith yL_window method_6_code 6 (some FieldType.int) [(0, 12, 15, 13), (0, 12, 19, 27), (0, 12, 23, 29), (0, 12, 27, 31)] ∈ ac_gw := ac_in 260 (by decide +kernel) (by decide +kernel)
theorem wd_283 : Cond.methodLink "TypedHallLaw" 24 yX5_window ∈ ac_gw := ac_in 283 (by decide +kernel) (by decide +kernel)
theorem wd_284 : Cond.instanceMethod yX5_window ∈ ac_gw := ac_in 284 (by decide +kernel) (by decide +kernel)
theorem wd_285 : Cond.selects "TypedHall" yX5_window yX5_window ∈ ac_gw := ac_in 285 (by decide +kernel) (by decide +kernel)
theorem wd_286 : Cond.code yX5_window prog_1_method_5_code 6 (some FieldType.int) ∈ ac_gw := ac_in 286 (by decide +kernel) (by decide +kernel)
theorem wd_287 : Cond.methodLink "TypedHall" 45 yX5_itemIn ∈ ac_gw := ac_in 287 (by decide +kernel) (by decide +kernel)
theorem wd_289 : Cond.instanceMethod yX5_itemIn ∈ ac_gw := ac_in 289 (by decide +kernel) (by decide +kernel)
theorem wd_290 : Cond.code yX5_itemIn prog_1_method_23_code 3 (some (FieldType.object "TypedHall$Item")) ∈ ac_gw := ac_in 290 (by decide +kernel) (by decide +kernel)
theorem wd_291 : Cond.methodLink "TypedHall" 87 yX5_requirePresent ∈ ac_gw := ac_in 291 (by decide +kernel) (by decide +kernel)
theorem wd_292 : Cond.static yX5_requirePresent ∈ ac_gw := ac_in 292 (by decide +kernel) (by decide +kernel)
theorem wd_293 : Cond.code yX5_requirePresent prog_1_method_40_code 3 none ∈ ac_gw := ac_in 293 (by decide +kernel) (by decide +kernel)
theorem wd_294 : Cond.methodLink "TypedHall" 49 yX1_ground ∈ ac_gw := ac_in 294 (by decide +kernel) (by decide +kernel)
theorem wd_295 : Cond.instanceMethod yX1_ground ∈ ac_gw := ac_in 295 (by decide +kernel) (by decide +kernel)
theorem wd_296 : Cond.sameMethod "TypedHall$Item" "TypedHall$Item" "ground" "()LTypedHall$VectorItem;" ∈ ac_gw := ac_in 296 (by decide +kernel) (by decide +kernel)
theorem wd_297 : Cond.selects "TypedHall$GridItem" yX1_ground yX1_ground ∈ ac_gw := ac_in 297 (by decide +kernel) (by decide +kernel)
theorem wd_298 : Cond.selects "TypedHall$RecordItem" yX1_ground yX1_ground ∈ ac_gw := ac_in 298 (by decide +kernel) (by decide +kernel)
theorem wd_299 : Cond.selects "TypedHall$VectorItem" yX1_ground yX3_ground ∈ ac_gw := ac_in 299 (by decide +kernel) (by decide +kernel)
theorem wd_300 : Cond.instanceMethod yX3_ground ∈ ac_gw := ac_in 300 (by decide +kernel) (by decide +kernel)
theorem wd_301 : Cond.code yX3_ground prog_5_method_3_code 1 (some (FieldType.object "TypedHall$VectorItem")) ∈ ac_gw := ac_in 301 (by decide +kernel) (by decide +kernel)
theorem wd_302 : Cond.selects "TypedHall$WindowItem" yX1_ground yX4_ground ∈ ac_gw := ac_in 302 (by decide +kernel) (by decide +kernel)
theorem wd_303 : Cond.instanceMethod yX4_ground ∈ ac_gw := ac_in 303 (by decide +kernel) (by decide +kernel)
theorem wd_304 : Cond.code yX4_ground prog_6_method_3_code 1 (some (FieldType.object "TypedHall$VectorItem")) ∈ ac_gw := ac_in 304 (by decide +kernel) (by decide +kernel)
theorem wd_305 : Cond.code yX1_ground prog_3_method_3_code 1 (some (FieldType.object "TypedHall$VectorItem")) ∈ ac_gw := ac_in 305 (by decide +kernel) (by decide +kernel)
theorem wd_306 : Cond.methodLink "TypedHall" 53 yX5_requireSupported ∈ ac_gw := ac_in 306 (by decide +kernel) (by decide +kernel)
theorem wd_307 : Cond.static yX5_requireSupported ∈ ac_gw := ac_in 307 (by decide +kernel) (by decide +kernel)
theorem wd_308 : Cond.code yX5_requireSupported prog_1_method_37_code 1 none ∈ ac_gw := ac_in 308 (by decide +kernel) (by decide +kernel)
theorem wd_324 : Cond.methodLink "TypedHall" 56 yX1_windows ∈ ac_gw := ac_in 324 (by decide +kernel) (by decide +kernel)
theorem wd_325 : Cond.instanceMethod yX1_windows ∈ ac_gw := ac_in 325 (by decide +kernel) (by decide +kernel)
theorem wd_326 : Cond.sameMethod "TypedHall$Item" "TypedHall$Item" "windows" "()I" ∈ ac_gw := ac_in 326 (by decide +kernel) (by decide +kernel)
theorem wd_327 : Cond.selects "TypedHall$GridItem" yX1_windows yX1_windows ∈ ac_gw := ac_in 327 (by decide +kernel) (by decide +kernel)
theorem wd_328 : Cond.selects "TypedHall$RecordItem" yX1_windows yX1_windows ∈ ac_gw := ac_in 328 (by decide +kernel) (by decide +kernel)
theorem wd_329 : Cond.selects "TypedHall$VectorItem" yX1_windows yX1_windows ∈ ac_gw := ac_in 329 (by decide +kernel) (by decide +kernel)
theorem wd_330 : Cond.selects "TypedHall$WindowItem" yX1_windows yX4_windows ∈ ac_gw := ac_in 330 (by decide +kernel) (by decide +kernel)
theorem wd_331 : Cond.instanceMethod yX4_windows ∈ ac_gw := ac_in 331 (by decide +kernel) (by decide +kernel)
theorem wd_332 : Cond.code yX4_windows prog_6_method_5_code 1 (some FieldType.int) ∈ ac_gw := ac_in 332 (by decide +kernel) (by decide +kernel)
theorem wd_333 : Cond.code yX1_windows prog_3_method_5_code 1 (some FieldType.int) ∈ ac_gw := ac_in 333 (by decide +kernel) (by decide +kernel)
theorem wd_349 : Cond.methodLink "TypedHall" 63 yX1_shift ∈ ac_gw := ac_in 349 (by decide +kernel) (by decide +kernel)
theorem wd_350 : Cond.instanceMethod yX1_shift ∈ ac_gw := ac_in 350 (by decide +kernel) (by decide +kernel)
theorem wd_351 : Cond.sameMethod "TypedHall$Item" "TypedHall$Item" "shift" "()I" ∈ ac_gw := ac_in 351 (by decide +kernel) (by decide +kernel)
theorem wd_352 : Cond.selects "TypedHall$GridItem" yX1_shift yX1_shift ∈ ac_gw := ac_in 352 (by decide +kernel) (by decide +kernel)
theorem wd_353 : Cond.selects "TypedHall$RecordItem" yX1_shift yX1_shift ∈ ac_gw := ac_in 353 (by decide +kernel) (by decide +kernel)
theorem wd_354 : Cond.selects "TypedHall$VectorItem" yX1_shift yX1_shift ∈ ac_gw := ac_in 354 (by decide +kernel) (by decide +kernel)
theorem wd_355 : Cond.selects "TypedHall$WindowItem" yX1_shift yX4_shift ∈ ac_gw := ac_in 355 (by decide +kernel) (by decide +kernel)
theorem wd_356 : Cond.instanceMethod yX4_shift ∈ ac_gw := ac_in 356 (by decide +kernel) (by decide +kernel)
theorem wd_357 : Cond.code yX4_shift prog_6_method_4_code 1 (some FieldType.int) ∈ ac_gw := ac_in 357 (by decide +kernel) (by decide +kernel)
theorem wd_358 : Cond.code yX1_shift prog_3_method_4_code 1 (some FieldType.int) ∈ ac_gw := ac_in 358 (by decide +kernel) (by decide +kernel)
theorem wd_359 : Cond.classLink "TypedHall" 66 "TypedHall$WindowItem" ∈ ac_gw := ac_in 359 (by decide +kernel) (by decide +kernel)
theorem wd_360 : Cond.instantiable "TypedHall$WindowItem" 3 ∈ ac_gw := ac_in 360 (by decide +kernel) (by decide +kernel)
theorem wd_361 : Cond.methodLink "TypedHall" 68 yX4_init ∈ ac_gw := ac_in 361 (by decide +kernel) (by decide +kernel)
theorem wd_362 : Cond.instanceMethod yX4_init ∈ ac_gw := ac_in 362 (by decide +kernel) (by decide +kernel)
theorem wd_363 : Cond.code yX4_init prog_6_method_1_code 4 none ∈ ac_gw := ac_in 363 (by decide +kernel) (by decide +kernel)
theorem wd_364 : Cond.methodLinkNest "TypedHall$WindowItem" 1 yX1_init "TypedHall" ∈ ac_ng := ac_inN 364 (by decide +kernel) (by decide +kernel)
theorem wd_365 : Cond.fieldLink "TypedHall$WindowItem" 7 "TypedHall$WindowItem" "ground" "LTypedHall$VectorItem;" ∈ ac_gw := ac_in 365 (by decide +kernel) (by decide +kernel)
theorem wd_366 : Cond.fieldLink "TypedHall$WindowItem" 13 "TypedHall$WindowItem" "shift" "I" ∈ ac_gw := ac_in 366 (by decide +kernel) (by decide +kernel)
theorem wd_367 : Cond.fieldLink "TypedHall$WindowItem" 17 "TypedHall$WindowItem" "windows" "I" ∈ ac_gw := ac_in 367 (by decide +kernel) (by decide +kernel)
theorem wd_375 : Cond.methodLink "TypedHallLaw" 120 yL_copy ∈ ac_gw := ac_in 375 (by decide +kernel) (by decide +kernel)
theorem wd_376 : Cond.static yL_copy ∈ ac_gw := ac_in 376 (by decide +kernel) (by decide +kernel)
theorem wd_377 : Cond.codeWith yL_copy method_7_code 5 (some FieldType.int) [(0, 17, 20, 13)] ∈ ac_gw := ac_in 377 (by decide +kernel) (by decide +kernel)
theorem wd_378 : Cond.methodLink "TypedHallLaw" 33 yX5_copy ∈ ac_gw := ac_in 378 (by decide +kernel) (by decide +kernel)
theorem wd_379 : Cond.instanceMethod yX5_copy ∈ ac_gw := ac_in 379 (by decide +kernel) (by decide +kernel)
theorem wd_380 : Cond.selects "TypedHall" yX5_copy yX5_copy ∈ ac_gw := ac_in 380 (by decide +kernel) (by decide +kernel)
theorem wd_381 : Cond.code yX5_copy prog_1_method_6_code 5 (some FieldType.boolean) ∈ ac_gw := ac_in 381 (by decide +kernel) (by decide +kernel)
theorem wd_382 : Cond.methodLink "TypedHallLaw" 124 yL_lose ∈ ac_gw := ac_in 382 (by decide +kernel) (by decide +kernel)
theorem wd_383 : Cond.static yL_lose ∈ ac_gw := ac_in 383 (by decide +kernel) (by decide +kernel)
theorem wd_384 : Cond.codeWith yL_lose method_8_code 5 (some FieldType.int) [(0, 10, 13, 13), (0, 10, 17, 27), (0, 10, 21, 29), (0, 10, 25, 41)] ∈ ac_gw := ac_in 384 (by decide +kernel) (by decide +kernel)
theorem wd_404 : Cond.methodLink "TypedHallLaw" 37 yX5_lose ∈ ac_gw := ac_in 404 (by decide +kernel) (by decide +kernel)
theorem wd_405 : Cond.instanceMethod yX5_lose ∈ ac_gw := ac_in 405 (by decide +kernel) (by decide +kernel)
theorem wd_406 : Cond.selects "TypedHall" yX5_lose yX5_lose ∈ ac_gw := ac_in 406 (by decide +kernel) (by decide +kernel)
theorem wd_407 : Cond.code yX5_lose prog_1_method_7_code 5 (some FieldType.int) ∈ ac_gw := ac_in 407 (by decide +kernel) (by decide +kernel)
theorem wd_408 : Cond.methodLink "TypedHall" 71 yX5_loseRow ∈ ac_gw := ac_in 408 (by decide +kernel) (by decide +kernel)
theorem wd_409 : Cond.static yX5_loseRow ∈ ac_gw := ac_in 409 (by decide +kernel) (by decide +kernel)
theorem wd_410 : Cond.code yX5_loseRow prog_1_method_28_code 3 (some FieldType.int) ∈ ac_gw := ac_in 410 (by decide +kernel) (by decide +kernel)
theorem wd_411 : Cond.methodLink "TypedHall" 116 yX5_requireIndex ∈ ac_gw := ac_in 411 (by decide +kernel) (by decide +kernel)
theorem wd_412 : Cond.static yX5_requireIndex ∈ ac_gw := ac_in 412 (by decide +kernel) (by decide +kernel)
theorem wd_413 : Cond.code yX5_requireIndex prog_1_method_41_code 3 none ∈ ac_gw := ac_in 413 (by decide +kernel) (by decide +kernel)
theorem wd_414 : Cond.fieldLink "TypedHall" 175 "TypedHall" "NO_ELEMENTS" "[I" ∈ ac_gw := ac_in 414 (by decide +kernel) (by decide +kernel)
theorem wd_416 : Cond.methodLink "TypedHall" 75 yX5_vectorOf ∈ ac_gw := ac_in 416 (by decide +kernel) (by decide +kernel)
theorem wd_417 : Cond.static yX5_vectorOf ∈ ac_gw := ac_in 417 (by decide +kernel) (by decide +kernel)
theorem wd_418 : Cond.code yX5_vectorOf prog_1_method_24_code 3 (some (FieldType.object "TypedHall$VectorItem")) ∈ ac_gw := ac_in 418 (by decide +kernel) (by decide +kernel)
theorem wd_419 : Cond.methodLink "TypedHall" 79 yX5_loseStorage ∈ ac_gw := ac_in 419 (by decide +kernel) (by decide +kernel)
theorem wd_420 : Cond.static yX5_loseStorage ∈ ac_gw := ac_in 420 (by decide +kernel) (by decide +kernel)
theorem wd_421 : Cond.code yX5_loseStorage prog_1_method_29_code 2 (some FieldType.int) ∈ ac_gw := ac_in 421 (by decide +kernel) (by decide +kernel)
theorem wd_422 : Cond.methodLink "TypedHall" 83 yX3_isLost ∈ ac_gw := ac_in 422 (by decide +kernel) (by decide +kernel)
theorem wd_423 : Cond.instanceMethod yX3_isLost ∈ ac_gw := ac_in 423 (by decide +kernel) (by decide +kernel)
theorem wd_424 : Cond.selects "TypedHall$VectorItem" yX3_isLost yX3_isLost ∈ ac_gw := ac_in 424 (by decide +kernel) (by decide +kernel)
theorem wd_425 : Cond.code yX3_isLost prog_5_method_4_code 1 (some FieldType.boolean) ∈ ac_gw := ac_in 425 (by decide +kernel) (by decide +kernel)
theorem wd_426 : Cond.methodLink "TypedHall" 98 yX3_length ∈ ac_gw := ac_in 426 (by decide +kernel) (by decide +kernel)
theorem wd_427 : Cond.instanceMethod yX3_length ∈ ac_gw := ac_in 427 (by decide +kernel) (by decide +kernel)
theorem wd_428 : Cond.selects "TypedHall$VectorItem" yX3_length yX3_length ∈ ac_gw := ac_in 428 (by decide +kernel) (by decide +kernel)
theorem wd_429 : Cond.code yX3_length prog_5_method_5_code 1 (some FieldType.int) ∈ ac_gw := ac_in 429 (by decide +kernel) (by decide +kernel)
theorem wd_430 : Cond.methodLink "TypedHall" 153 yX3_dropStorage ∈ ac_gw := ac_in 430 (by decide +kernel) (by decide +kernel)
theorem wd_431 : Cond.instanceMethod yX3_dropStorage ∈ ac_gw := ac_in 431 (by decide +kernel) (by decide +kernel)
theorem wd_432 : Cond.selects "TypedHall$VectorItem" yX3_dropStorage yX3_dropStorage ∈ ac_gw := ac_in 432 (by decide +kernel) (by decide +kernel)
theorem wd_433 : Cond.code yX3_dropStorage prog_5_method_6_code 1 none ∈ ac_gw := ac_in 433 (by decide +kernel) (by decide +kernel)
theorem wd_434 : Cond.methodLink "TypedHallLaw" 127 yL_resize ∈ ac_gw := ac_in 434 (by decide +kernel) (by decide +kernel)
theorem wd_435 : Cond.static yL_resize ∈ ac_gw := ac_in 435 (by decide +kernel) (by decide +kernel)
theorem wd_436 : Cond.codeWith yL_resize method_9_code 5 (some FieldType.int) [(0, 10, 13, 13), (0, 10, 17, 27), (0, 10, 21, 29), (0, 10, 25, 15)] ∈ ac_gw := ac_in 436 (by decide +kernel) (by decide +kernel)
theorem wd_437 : Cond.methodLink "TypedHallLaw" 43 yX5_resize ∈ ac_gw := ac_in 437 (by decide +kernel) (by decide +kernel)
theorem wd_438 : Cond.instanceMethod yX5_resize ∈ ac_gw := ac_in 438 (by decide +kernel) (by decide +kernel)
theorem wd_439 : Cond.selects "TypedHall" yX5_resize yX5_resize ∈ ac_gw := ac_in 439 (by decide +kernel) (by decide +kernel)
theorem wd_440 : Cond.code yX5_resize prog_1_method_8_code 4 (some FieldType.int) ∈ ac_gw := ac_in 440 (by decide +kernel) (by decide +kernel)
theorem wd_441 : Cond.methodLink "TypedHall" 90 yX3_changeLength ∈ ac_gw := ac_in 441 (by decide +kernel) (by decide +kernel)
theorem wd_442 : Cond.instanceMethod yX3_changeLength ∈ ac_gw := ac_in 442 (by decide +kernel) (by decide +kernel)
theorem wd_443 : Cond.selects "TypedHall$VectorItem" yX3_changeLength yX3_changeLength ∈ ac_gw := ac_in 443 (by decide +kernel) (by decide +kernel)
theorem wd_444 : Cond.code yX3_changeLength prog_5_method_7_code 3 (some FieldType.int) ∈ ac_gw := ac_in 444 (by decide +kernel) (by decide +kernel)
theorem wd_445 : Cond.methodLink "TypedHall$VectorItem" 23 yX3_length ∈ ac_gw := ac_in 445 (by decide +kernel) (by decide +kernel)
theorem wd_446 : Cond.methodLink "TypedHall$VectorItem" 27 yJ9_min_7cf53 ∈ ac_gw := ac_in 446 (by decide +kernel) (by decide +kernel)
theorem wd_449 : Cond.methodLink "TypedHall$VectorItem" 33 yJ7_copyOf_c38d5 ∈ ac_gw := ac_in 449 (by decide +kernel) (by decide +kernel)
theorem wd_450 : Cond.static yJ7_copyOf_c38d5 ∈ ac_gw := ac_in 450 (by decide +kernel) (by decide +kernel)
theorem wd_451 : Cond.code yJ7_copyOf_c38d5 prog_24_method_124_code 3 (some (FieldType.array FieldType.long)) ∈ ac_gw := ac_in 451 (by decide +kernel) (by decide +kernel)
theorem wd_452 : Cond.methodLink "java/util/Arrays" 319 ⟨"[J", "clone", "()Ljava/lang/Object;"⟩ ∈ ac_gw := ac_in 452 (by decide +kernel) (by decide +kernel)
theorem wd_458 : Cond.classLink "java/util/Arrays" 320 "[J" ∈ ac_gw := ac_in 458 (by decide +kernel) (by decide +kernel)
theorem wd_459 : Cond.methodLink "java/util/Arrays" 304 yJ9_min_7cf53 ∈ ac_gw := ac_in 459 (by decide +kernel) (by decide +kernel)
theorem wd_460 : Cond.methodLink "java/util/Arrays" 150 ⟨"java/lang/System", "arraycopy", "(Ljava/lang/Object;ILjava/lang/Object;II)V"⟩ ∈ ac_gw := ac_in 460 (by decide +kernel) (by decide +kernel)
theorem wd_463 : Cond.methodLink "TypedHall$VectorItem" 39 yX3_firstItems ∈ ac_gw := ac_in 463 (by decide +kernel) (by decide +kernel)
theorem wd_465 : Cond.instanceMethod yX3_firstItems ∈ ac_gw := ac_in 465 (by decide +kernel) (by decide +kernel)
theorem wd_466 : Cond.code yX3_firstItems prog_5_method_8_code 5 (some (FieldType.array (FieldType.object "TypedHall$Item"))) ∈ ac_gw := ac_in 466 (by decide +kernel) (by decide +kernel)
theorem wd_467 : Cond.methodLink "TypedHallLaw" 130 yL_size ∈ ac_gw := ac_in 467 (by decide +kernel) (by decide +kernel)
theorem wd_468 : Cond.static yL_size ∈ ac_gw := ac_in 468 (by decide +kernel) (by decide +kernel)
theorem wd_469 : Cond.codeWith yL_size method_10_code 4 (some FieldType.int) [(0, 9, 12, 13), (0, 9, 15, 27), (0, 9, 18, 29)] ∈ ac_gw := ac_in 469 (by decide +kernel) (by decide +kernel)
theorem wd_470 : Cond.methodLink "TypedHallLaw" 46 yX5_size ∈ ac_gw := ac_in 470 (by decide +kernel) (by decide +kernel)
theorem wd_471 : Cond.instanceMethod yX5_size ∈ ac_gw := ac_in 471 (by decide +kernel) (by decide +kernel)
theorem wd_472 : Cond.selects "TypedHall" yX5_size yX5_size ∈ ac_gw := ac_in 472 (by decide +kernel) (by decide +kernel)
theorem wd_473 : Cond.code yX5_size prog_1_method_9_code 4 (some FieldType.int) ∈ ac_gw := ac_in 473 (by decide +kernel) (by decide +kernel)
theorem wd_474 : Cond.methodLink "TypedHallLaw" 133 yL_take ∈ ac_gw := ac_in 474 (by decide +kernel) (by decide +kernel)
theorem wd_475 : Cond.static yL_take ∈ ac_gw := ac_in 475 (by decide +kernel) (by decide +kernel)
theorem wd_476 : Cond.codeWith yL_take method_11_code 5 (some FieldType.int) [(0, 9, 12, 13), (0, 9, 16, 27), (0, 9, 20, 29), (0, 9, 24, 41)] ∈ ac_gw := ac_in 476 (by decide +kernel) (by decide +kernel)
theorem wd_477 : Cond.methodLink "TypedHallLaw" 49 yX5_take ∈ ac_gw := ac_in 477 (by decide +kernel) (by decide +kernel)
theorem wd_478 : Cond.instanceMethod yX5_take ∈ ac_gw := ac_in 478 (by decide +kernel) (by decide +kernel)
theorem wd_479 : Cond.selects "TypedHall" yX5_take yX5_take ∈ ac_gw := ac_in 479 (by decide +kernel) (by decide +kernel)
theorem wd_480 : Cond.code yX5_take prog_1_method_10_code 4 (some FieldType.long) ∈ ac_gw := ac_in 480 (by decide +kernel) (by decide +kernel)
theorem wd_481 : Cond.methodLink "TypedHall" 101 ⟨"TypedHall$Item", "sort", "()I"⟩ ∈ ac_gw := ac_in 481 (by decide +kernel) (by decide +kernel)
theorem wd_482 : Cond.declares ⟨"TypedHall$Item", "sort", "()I"⟩ ∈ ac_ng := ac_inN 482 (by decide +kernel) (by decide +kernel)
theorem wd_483 : Cond.sameMethod "TypedHall$Item" "TypedHall$Item" "sort" "()I" ∈ ac_gw := ac_in 483 (by decide +kernel) (by decide +kernel)
theorem wd_484 : Cond.selects "TypedHall$GridItem" ⟨"TypedHall$Item", "sort", "()I"⟩ yX0_sort ∈ ac_gw := ac_in 484 (by decide +kernel) (by decide +kernel)
theorem wd_485 : Cond.instanceMethod yX0_sort ∈ ac_gw := ac_in 485 (by decide +kernel) (by decide +kernel)
theorem wd_486 : Cond.code yX0_sort prog_2_method_2_code 1 (some FieldType.int) ∈ ac_gw := ac_in 486 (by decide +kernel) (by decide +kernel)
theorem wd_487 : Cond.selects "TypedHall$RecordItem" ⟨"TypedHall$Item", "sort", "()I"⟩ yX2_sort ∈ ac_gw := ac_in 487 (by decide +kernel) (by decide +kernel)
theorem wd_488 : Cond.instanceMethod yX2_sort ∈ ac_gw := ac_in 488 (by decide +kernel) (by decide +kernel)
theorem wd_489 : Cond.code yX2_sort prog_4_method_2_code 1 (some FieldType.int) ∈ ac_gw := ac_in 489 (by decide +kernel) (by decide +kernel)
theorem wd_490 : Cond.selects "TypedHall$VectorItem" ⟨"TypedHall$Item", "sort", "()I"⟩ yX3_sort ∈ ac_gw := ac_in 490 (by decide +kernel) (by decide +kernel)
theorem wd_491 : Cond.instanceMethod yX3_sort ∈ ac_gw := ac_in 491 (by decide +kernel) (by decide +kernel)
theorem wd_492 : Cond.code yX3_sort prog_5_method_2_code 1 (some FieldType.int) ∈ ac_gw := ac_in 492 (by decide +kernel) (by decide +kernel)
theorem wd_493 : Cond.selects "TypedHall$WindowItem" ⟨"TypedHall$Item", "sort", "()I"⟩ yX4_sort ∈ ac_gw := ac_in 493 (by decide +kernel) (by decide +kernel)
theorem wd_494 : Cond.instanceMethod yX4_sort ∈ ac_gw := ac_in 494 (by decide +kernel) (by decide +kernel)
theorem wd_495 : Cond.code yX4_sort prog_6_method_2_code 1 (some FieldType.int) ∈ ac_gw := ac_in 495 (by decide +kernel) (by decide +kernel)
theorem wd_496 : Cond.methodLink "TypedHall" 104 yX5_takeElement ∈ ac_gw := ac_in 496 (by decide +kernel) (by decide +kernel)
theorem wd_497 : Cond.static yX5_takeElement ∈ ac_gw := ac_in 497 (by decide +kernel) (by decide +kernel)
theorem wd_498 : Cond.code yX5_takeElement prog_1_method_30_code 3 (some FieldType.long) ∈ ac_gw := ac_in 498 (by decide +kernel) (by decide +kernel)
theorem wd_499 : Cond.methodLink "TypedHall" 127 yX5_placeOf ∈ ac_gw := ac_in 499 (by decide +kernel) (by decide +kernel)
theorem wd_500 : Cond.static yX5_placeOf ∈ ac_gw := ac_in 500 (by decide +kernel) (by decide +kernel)
theorem wd_501 : Cond.code yX5_placeOf prog_1_method_32_code 4 (some FieldType.int) ∈ ac_gw := ac_in 501 (by decide +kernel) (by decide +kernel)
theorem wd_502 : Cond.methodLink "TypedHallLaw" 138 yL_put ∈ ac_gw := ac_in 502 (by decide +kernel) (by decide +kernel)
theorem wd_503 : Cond.static yL_put ∈ ac_gw := ac_in 503 (by decide +kernel) (by decide +kernel)
theorem wd_504 : Cond.codeWith yL_put method_12_code 7 (some FieldType.int) [(0, 11, 14, 13), (0, 11, 18, 27), (0, 11, 22, 29), (0, 11, 26, 41)] ∈ ac_gw := ac_in 504 (by decide +kernel) (by decide +kernel)
theorem wd_505 : Cond.methodLink "TypedHallLaw" 53 yX5_put ∈ ac_gw := ac_in 505 (by decide +kernel) (by decide +kernel)
theorem wd_506 : Cond.instanceMethod yX5_put ∈ ac_gw := ac_in 506 (by decide +kernel) (by decide +kernel)
theorem wd_507 : Cond.selects "TypedHall" yX5_put yX5_put ∈ ac_gw := ac_in 507 (by decide +kernel) (by decide +kernel)
theorem wd_508 : Cond.code yX5_put prog_1_method_11_code 6 (some FieldType.long) ∈ ac_gw := ac_in 508 (by decide +kernel) (by decide +kernel)
theorem wd_509 : Cond.methodLink "TypedHall" 108 yX5_putElement ∈ ac_gw := ac_in 509 (by decide +kernel) (by decide +kernel)
theorem wd_510 : Cond.static yX5_putElement ∈ ac_gw := ac_in 510 (by decide +kernel) (by decide +kernel)
theorem wd_511 : Cond.code yX5_putElement prog_1_method_31_code 6 (some FieldType.long) ∈ ac_gw := ac_in 511 (by decide +kernel) (by decide +kernel)
theorem wd_512 : Cond.methodLink "TypedHall" 162 yX5_fitted ∈ ac_gw := ac_in 512 (by decide +kernel) (by decide +kernel)
theorem wd_513 : Cond.static yX5_fitted ∈ ac_gw := ac_in 513 (by decide +kernel) (by decide +kernel)
theorem wd_514 : Cond.code yX5_fitted prog_1_method_33_code 3 (some FieldType.long) ∈ ac_gw := ac_in 514 (by decide +kernel) (by decide +kernel)
theorem wd_515 : Cond.methodLink "TypedHallLaw" 142 yL_cell ∈ ac_gw := ac_in 515 (by decide +kernel) (by decide +kernel)
theorem wd_516 : Cond.static yL_cell ∈ ac_gw := ac_in 516 (by decide +kernel) (by decide +kernel)
theorem wd_517 : Cond.codeWith yL_cell method_13_code 6 (some FieldType.int) [(0, 12, 15, 13), (0, 12, 19, 29), (0, 12, 23, 27), (0, 12, 27, 41)] ∈ ac_gw := ac_in 517 (by decide +kernel) (by decide +kernel)
theorem wd_518 : Cond.methodLink "TypedHallLaw" 57 yX5_cell ∈ ac_gw := ac_in 518 (by decide +kernel) (by decide +kernel)
theorem wd_519 : Cond.instanceMethod yX5_cell ∈ ac_gw := ac_in 519 (by decide +kernel) (by decide +kernel)
theorem wd_520 : Cond.selects "TypedHall" yX5_cell yX5_cell ∈ ac_gw := ac_in 520 (by decide +kernel) (by decide +kernel)
theorem wd_521 : Cond.code yX5_cell prog_1_method_12_code 5 (some FieldType.int) ∈ ac_gw := ac_in 521 (by decide +kernel) (by decide +kernel)
theorem wd_522 : Cond.methodLink "TypedHall" 112 yX5_gridIn ∈ ac_gw := ac_in 522 (by decide +kernel) (by decide +kernel)
theorem wd_524 : Cond.instanceMethod yX5_gridIn ∈ ac_gw := ac_in 524 (by decide +kernel) (by decide +kernel)
theorem wd_525 : Cond.code yX5_gridIn prog_1_method_25_code 5 (some (FieldType.object "TypedHall$GridItem")) ∈ ac_gw := ac_in 525 (by decide +kernel) (by decide +kernel)
theorem wd_526 : Cond.methodLink "TypedHall" 119 yX5_requireCell ∈ ac_gw := ac_in 526 (by decide +kernel) (by decide +kernel)
theorem wd_527 : Cond.static yX5_requireCell ∈ ac_gw := ac_in 527 (by decide +kernel) (by decide +kernel)
theorem wd_528 : Cond.code yX5_requireCell prog_1_method_39_code 2 none ∈ ac_gw := ac_in 528 (by decide +kernel) (by decide +kernel)
theorem wd_529 : Cond.methodLink "TypedHallLaw" 145 yL_setCell ∈ ac_gw := ac_in 529 (by decide +kernel) (by decide +kernel)
theorem wd_530 : Cond.static yL_setCell ∈ ac_gw := ac_in 530 (by decide +kernel) (by decide +kernel)
theorem wd_531 : Cond.codeWith yL_setCell method_14_code 7 (some FieldType.int) [(0, 11, 14, 13), (0, 11, 18, 29), (0, 11, 22, 27), (0, 11, 26, 41), (0, 11, 30, 64)] ∈ ac_gw := ac_in 531 (by decide +kernel) (by decide +kernel)
theorem wd_546 : Cond.methodLink "TypedHallLaw" 60 yX5_setCell ∈ ac_gw := ac_in 546 (by decide +kernel) (by decide +kernel)
theorem wd_547 : Cond.instanceMethod yX5_setCell ∈ ac_gw := ac_in 547 (by decide +kernel) (by decide +kernel)
theorem wd_548 : Cond.selects "TypedHall" yX5_setCell yX5_setCell ∈ ac_gw := ac_in 548 (by decide +kernel) (by decide +kernel)
theorem wd_549 : Cond.code yX5_setCell prog_1_method_13_code 7 none ∈ ac_gw := ac_in 549 (by decide +kernel) (by decide +kernel)
theorem wd_550 : Cond.methodLink "TypedHall" 123 yX5_requireDivisor ∈ ac_gw := ac_in 550 (by decide +kernel) (by decide +kernel)
theorem wd_551 : Cond.static yX5_requireDivisor ∈ ac_gw := ac_in 551 (by decide +kernel) (by decide +kernel)
theorem wd_552 : Cond.code yX5_requireDivisor prog_1_method_38_code 2 none ∈ ac_gw := ac_in 552 (by decide +kernel) (by decide +kernel)
theorem wd_558 : Cond.methodLink "TypedHallLaw" 149 yL_refer ∈ ac_gw := ac_in 558 (by decide +kernel) (by decide +kernel)
theorem wd_559 : Cond.static yL_refer ∈ ac_gw := ac_in 559 (by decide +kernel) (by decide +kernel)
theorem wd_560 : Cond.codeWith yL_refer method_15_code 5 (some FieldType.int) [(0, 7, 10, 13), (0, 7, 14, 27), (0, 7, 18, 29), (0, 7, 22, 41)] ∈ ac_gw := ac_in 560 (by decide +kernel) (by decide +kernel)
theorem wd_561 : Cond.methodLink "TypedHallLaw" 66 yX5_refer ∈ ac_gw := ac_in 561 (by decide +kernel) (by decide +kernel)
theorem wd_562 : Cond.instanceMethod yX5_refer ∈ ac_gw := ac_in 562 (by decide +kernel) (by decide +kernel)
theorem wd_563 : Cond.selects "TypedHall" yX5_refer yX5_refer ∈ ac_gw := ac_in 563 (by decide +kernel) (by decide +kernel)
theorem wd_564 : Cond.code yX5_refer prog_1_method_14_code 6 none ∈ ac_gw := ac_in 564 (by decide +kernel) (by decide +kernel)
theorem wd_565 : Cond.methodLink "TypedHallLaw" 153 yL_fetch ∈ ac_gw := ac_in 565 (by decide +kernel) (by decide +kernel)
theorem wd_566 : Cond.static yL_fetch ∈ ac_gw := ac_in 566 (by decide +kernel) (by decide +kernel)
theorem wd_567 : Cond.codeWith yL_fetch method_16_code 6 (some FieldType.int) [(0, 12, 15, 13), (0, 12, 19, 27), (0, 12, 23, 29), (0, 12, 27, 41)] ∈ ac_gw := ac_in 567 (by decide +kernel) (by decide +kernel)
theorem wd_568 : Cond.methodLink "TypedHallLaw" 70 yX5_fetch ∈ ac_gw := ac_in 568 (by decide +kernel) (by decide +kernel)
theorem wd_569 : Cond.instanceMethod yX5_fetch ∈ ac_gw := ac_in 569 (by decide +kernel) (by decide +kernel)
theorem wd_570 : Cond.selects "TypedHall" yX5_fetch yX5_fetch ∈ ac_gw := ac_in 570 (by decide +kernel) (by decide +kernel)
theorem wd_571 : Cond.code yX5_fetch prog_1_method_15_code 7 (some FieldType.int) ∈ ac_gw := ac_in 571 (by decide +kernel) (by decide +kernel)
theorem wd_572 : Cond.methodLink "TypedHallLaw" 156 yL_link ∈ ac_gw := ac_in 572 (by decide +kernel) (by decide +kernel)
theorem wd_573 : Cond.static yL_link ∈ ac_gw := ac_in 573 (by decide +kernel) (by decide +kernel)
theorem wd_574 : Cond.codeWith yL_link method_17_code 4 (some FieldType.int) [(0, 6, 9, 13), (0, 6, 12, 29), (0, 6, 15, 27)] ∈ ac_gw := ac_in 574 (by decide +kernel) (by decide +kernel)
theorem wd_575 : Cond.methodLink "TypedHallLaw" 73 yX5_link ∈ ac_gw := ac_in 575 (by decide +kernel) (by decide +kernel)
theorem wd_576 : Cond.instanceMethod yX5_link ∈ ac_gw := ac_in 576 (by decide +kernel) (by decide +kernel)
theorem wd_577 : Cond.selects "TypedHall" yX5_link yX5_link ∈ ac_gw := ac_in 577 (by decide +kernel) (by decide +kernel)
theorem wd_578 : Cond.code yX5_link prog_1_method_16_code 4 none ∈ ac_gw := ac_in 578 (by decide +kernel) (by decide +kernel)
theorem wd_579 : Cond.methodLink "TypedHall" 134 yX5_recordOrNone ∈ ac_gw := ac_in 579 (by decide +kernel) (by decide +kernel)
theorem wd_581 : Cond.instanceMethod yX5_recordOrNone ∈ ac_gw := ac_in 581 (by decide +kernel) (by decide +kernel)
theorem wd_582 : Cond.code yX5_recordOrNone prog_1_method_27_code 5 (some (FieldType.object "TypedHall$RecordItem")) ∈ ac_gw := ac_in 582 (by decide +kernel) (by decide +kernel)
theorem wd_583 : Cond.methodLink "TypedHall" 138 yX5_recordIn ∈ ac_gw := ac_in 583 (by decide +kernel) (by decide +kernel)
theorem wd_585 : Cond.instanceMethod yX5_recordIn ∈ ac_gw := ac_in 585 (by decide +kernel) (by decide +kernel)
theorem wd_586 : Cond.code yX5_recordIn prog_1_method_26_code 3 (some (FieldType.object "TypedHall$RecordItem")) ∈ ac_gw := ac_in 586 (by decide +kernel) (by decide +kernel)
theorem wd_587 : Cond.methodLink "TypedHallLaw" 160 yL_follow ∈ ac_gw := ac_in 587 (by decide +kernel) (by decide +kernel)
theorem wd_588 : Cond.static yL_follow ∈ ac_gw := ac_in 588 (by decide +kernel) (by decide +kernel)
theorem wd_589 : Cond.codeWith yL_follow method_18_code 5 (some FieldType.int) [(0, 17, 20, 13), (0, 17, 24, 29), (0, 17, 28, 27)] ∈ ac_gw := ac_in 589 (by decide +kernel) (by decide +kernel)
theorem wd_590 : Cond.methodLink "TypedHallLaw" 77 yX5_follow ∈ ac_gw := ac_in 590 (by decide +kernel) (by decide +kernel)
theorem wd_591 : Cond.instanceMethod yX5_follow ∈ ac_gw := ac_in 591 (by decide +kernel) (by decide +kernel)
theorem wd_592 : Cond.selects "TypedHall" yX5_follow yX5_follow ∈ ac_gw := ac_in 592 (by decide +kernel) (by decide +kernel)
theorem wd_593 : Cond.code yX5_follow prog_1_method_17_code 4 (some FieldType.boolean) ∈ ac_gw := ac_in 593 (by decide +kernel) (by decide +kernel)
theorem wd_594 : Cond.methodLink "TypedHallLaw" 163 yL_exchange ∈ ac_gw := ac_in 594 (by decide +kernel) (by decide +kernel)
theorem wd_595 : Cond.static yL_exchange ∈ ac_gw := ac_in 595 (by decide +kernel) (by decide +kernel)
theorem wd_596 : Cond.codeWith yL_exchange method_19_code 6 (some FieldType.int) [(0, 10, 13, 13), (0, 10, 17, 29), (0, 10, 21, 27)] ∈ ac_gw := ac_in 596 (by decide +kernel) (by decide +kernel)
theorem wd_597 : Cond.methodLink "TypedHallLaw" 80 yX5_exchange ∈ ac_gw := ac_in 597 (by decide +kernel) (by decide +kernel)
theorem wd_598 : Cond.instanceMethod yX5_exchange ∈ ac_gw := ac_in 598 (by decide +kernel) (by decide +kernel)
theorem wd_599 : Cond.selects "TypedHall" yX5_exchange yX5_exchange ∈ ac_gw := ac_in 599 (by decide +kernel) (by decide +kernel)
theorem wd_600 : Cond.code yX5_exchange prog_1_method_18_code 7 (some FieldType.long) ∈ ac_gw := ac_in 600 (by decide +kernel) (by decide +kernel)
theorem wd_601 : Cond.methodLink "TypedHallLaw" 167 yL_total ∈ ac_gw := ac_in 601 (by decide +kernel) (by decide +kernel)
theorem wd_602 : Cond.static yL_total ∈ ac_gw := ac_in 602 (by decide +kernel) (by decide +kernel)
theorem wd_603 : Cond.codeWith yL_total method_20_code 4 (some FieldType.int) [(0, 8, 11, 13), (0, 8, 14, 29), (0, 8, 17, 27)] ∈ ac_gw := ac_in 603 (by decide +kernel) (by decide +kernel)
theorem wd_604 : Cond.methodLink "TypedHallLaw" 84 yX5_total ∈ ac_gw := ac_in 604 (by decide +kernel) (by decide +kernel)
theorem wd_605 : Cond.instanceMethod yX5_total ∈ ac_gw := ac_in 605 (by decide +kernel) (by decide +kernel)
theorem wd_606 : Cond.selects "TypedHall" yX5_total yX5_total ∈ ac_gw := ac_in 606 (by decide +kernel) (by decide +kernel)
theorem wd_607 : Cond.code yX5_total prog_1_method_19_code 6 (some FieldType.long) ∈ ac_gw := ac_in 607 (by decide +kernel) (by decide +kernel)
theorem wd_608 : Cond.methodLink "TypedHallLaw" 170 yL_combine ∈ ac_gw := ac_in 608 (by decide +kernel) (by decide +kernel)
theorem wd_609 : Cond.static yL_combine ∈ ac_gw := ac_in 609 (by decide +kernel) (by decide +kernel)
theorem wd_610 : Cond.codeWith yL_combine method_21_code 8 (some FieldType.int) [(0, 15, 18, 13), (0, 15, 22, 27), (0, 15, 26, 29), (0, 15, 30, 41), (0, 15, 34, 64)] ∈ ac_gw := ac_in 610 (by decide +kernel) (by decide +kernel)
theorem wd_611 : Cond.methodLink "TypedHallLaw" 88 yX5_combine ∈ ac_gw := ac_in 611 (by decide +kernel) (by decide +kernel)
theorem wd_612 : Cond.instanceMethod yX5_combine ∈ ac_gw := ac_in 612 (by decide +kernel) (by decide +kernel)
theorem wd_613 : Cond.selects "TypedHall" yX5_combine yX5_combine ∈ ac_gw := ac_in 613 (by decide +kernel) (by decide +kernel)
theorem wd_614 : Cond.code yX5_combine prog_1_method_20_code 15 (some FieldType.long) ∈ ac_gw := ac_in 614 (by decide +kernel) (by decide +kernel)
theorem wd_615 : Cond.methodLink "TypedHall" 149 yX5_reckon ∈ ac_gw := ac_in 615 (by decide +kernel) (by decide +kernel)
theorem wd_616 : Cond.static yX5_reckon ∈ ac_gw := ac_in 616 (by decide +kernel) (by decide +kernel)
theorem wd_617 : Cond.code yX5_reckon prog_1_method_34_code 5 (some FieldType.long) ∈ ac_gw := ac_in 617 (by decide +kernel) (by decide +kernel)
theorem wd_618 : Cond.methodLink "TypedHallLaw" 174 yL_move ∈ ac_gw := ac_in 618 (by decide +kernel) (by decide +kernel)
theorem wd_619 : Cond.static yL_move ∈ ac_gw := ac_in 619 (by decide +kernel) (by decide +kernel)
theorem wd_620 : Cond.codeWith yL_move method_22_code 8 (some FieldType.int) [(0, 16, 19, 13), (0, 16, 23, 27), (0, 16, 27, 29), (0, 16, 31, 41)] ∈ ac_gw := ac_in 620 (by decide +kernel) (by decide +kernel)
theorem wd_621 : Cond.methodLink "TypedHallLaw" 92 yX5_move ∈ ac_gw := ac_in 621 (by decide +kernel) (by decide +kernel)
theorem wd_622 : Cond.instanceMethod yX5_move ∈ ac_gw := ac_in 622 (by decide +kernel) (by decide +kernel)
theorem wd_623 : Cond.selects "TypedHall" yX5_move yX5_move ∈ ac_gw := ac_in 623 (by decide +kernel) (by decide +kernel)
theorem wd_624 : Cond.code yX5_move prog_1_method_21_code 11 (some FieldType.int) ∈ ac_gw := ac_in 624 (by decide +kernel) (by decide +kernel)
theorem wd_625 : Cond.classLink "TypedHallLaw" 97 "TypedHallModel" ∈ ac_gw := ac_in 625 (by decide +kernel) (by decide +kernel)
theorem wd_626 : Cond.instantiable "TypedHallModel" 12 ∈ ac_gw := ac_in 626 (by decide +kernel) (by decide +kernel)
theorem wd_627 : Cond.methodLink "TypedHallLaw" 99 yX6_init ∈ ac_gw := ac_in 627 (by decide +kernel) (by decide +kernel)
theorem wd_628 : Cond.instanceMethod yX6_init ∈ ac_gw := ac_in 628 (by decide +kernel) (by decide +kernel)
theorem wd_629 : Cond.code yX6_init prog_8_method_1_code 2 none ∈ ac_gw := ac_in 629 (by decide +kernel) (by decide +kernel)
theorem wd_630 : Cond.methodLink "TypedHallModel" 1 ⟨"java/lang/Object", "<init>", "()V"⟩ ∈ ac_gw := ac_in 630 (by decide +kernel) (by decide +kernel)
theorem wd_631 : Cond.fieldLink "TypedHallModel" 7 "TypedHallModel" "register" "[I" ∈ ac_gw := ac_in 631 (by decide +kernel) (by decide +kernel)
theorem wd_632 : Cond.fieldLink "TypedHallModel" 13 "TypedHallModel" "kind" "[I" ∈ ac_gw := ac_in 632 (by decide +kernel) (by decide +kernel)
theorem wd_633 : Cond.fieldLink "TypedHallModel" 16 "TypedHallModel" "length" "[I" ∈ ac_gw := ac_in 633 (by decide +kernel) (by decide +kernel)
theorem wd_634 : Cond.fieldLink "TypedHallModel" 19 "TypedHallModel" "width" "[I" ∈ ac_gw := ac_in 634 (by decide +kernel) (by decide +kernel)
theorem wd_635 : Cond.fieldLink "TypedHallModel" 22 "TypedHallModel" "base" "[I" ∈ ac_gw := ac_in 635 (by decide +kernel) (by decide +kernel)
theorem wd_636 : Cond.fieldLink "TypedHallModel" 25 "TypedHallModel" "offset" "[I" ∈ ac_gw := ac_in 636 (by decide +kernel) (by decide +kernel)
theorem wd_637 : Cond.fieldLink "TypedHallModel" 28 "TypedHallModel" "strip" "[J" ∈ ac_gw := ac_in 637 (by decide +kernel) (by decide +kernel)
theorem wd_638 : Cond.fieldLink "TypedHallModel" 32 "TypedHallModel" "lost" "[Z" ∈ ac_gw := ac_in 638 (by decide +kernel) (by decide +kernel)
theorem wd_639 : Cond.fieldLink "TypedHallModel" 48 "TypedHallModel" "made" "I" ∈ ac_gw := ac_in 639 (by decide +kernel) (by decide +kernel)
theorem wd_640 : Cond.fieldLink "TypedHallModel" 71 "TypedHallModel" "vector" "I" ∈ ac_gw := ac_in 640 (by decide +kernel) (by decide +kernel)
theorem wd_641 : Cond.fieldLink "TypedHallModel" 68 "TypedHallModel" "element" "I" ∈ ac_gw := ac_in 641 (by decide +kernel) (by decide +kernel)
theorem wd_642 : Cond.fieldLink "TypedHallModel" 36 "TypedHallModel" "code" "I" ∈ ac_gw := ac_in 642 (by decide +kernel) (by decide +kernel)
theorem wd_668 : Cond.arrayClass FieldType.boolean ∈ ac_gw := ac_in 668 (by decide +kernel) (by decide +kernel)
theorem wd_669 : Cond.methodLink "TypedHallLaw" 106 yX6_thrown ∈ ac_gw := ac_in 669 (by decide +kernel) (by decide +kernel)
theorem wd_670 : Cond.instanceMethod yX6_thrown ∈ ac_gw := ac_in 670 (by decide +kernel) (by decide +kernel)
theorem wd_671 : Cond.selects "TypedHallModel" yX6_thrown yX6_thrown ∈ ac_gw := ac_in 671 (by decide +kernel) (by decide +kernel)
theorem wd_672 : Cond.code yX6_thrown prog_8_method_2_code 1 (some FieldType.int) ∈ ac_gw := ac_in 672 (by decide +kernel) (by decide +kernel)
theorem wd_673 : Cond.methodLink "TypedHallLaw" 105 yX6_make ∈ ac_gw := ac_in 673 (by decide +kernel) (by decide +kernel)
theorem wd_674 : Cond.instanceMethod yX6_make ∈ ac_gw := ac_in 674 (by decide +kernel) (by decide +kernel)
theorem wd_675 : Cond.selects "TypedHallModel" yX6_make yX6_make ∈ ac_gw := ac_in 675 (by decide +kernel) (by decide +kernel)
theorem wd_676 : Cond.code yX6_make prog_8_method_7_code 4 (some FieldType.int) ∈ ac_gw := ac_in 676 (by decide +kernel) (by decide +kernel)
theorem wd_677 : Cond.methodLink "TypedHallModel" 40 yX6_in ∈ ac_gw := ac_in 677 (by decide +kernel) (by decide +kernel)
theorem wd_678 : Cond.static yX6_in ∈ ac_gw := ac_in 678 (by decide +kernel) (by decide +kernel)
theorem wd_679 : Cond.code yX6_in prog_8_method_3_code 3 (some FieldType.boolean) ∈ ac_gw := ac_in 679 (by decide +kernel) (by decide +kernel)
theorem wd_680 : Cond.methodLink "TypedHallModel" 44 yX6_good ∈ ac_gw := ac_in 680 (by decide +kernel) (by decide +kernel)
theorem wd_682 : Cond.instanceMethod yX6_good ∈ ac_gw := ac_in 682 (by decide +kernel) (by decide +kernel)
theorem wd_683 : Cond.code yX6_good prog_8_method_4_code 3 (some FieldType.boolean) ∈ ac_gw := ac_in 683 (by decide +kernel) (by decide +kernel)
theorem wd_684 : Cond.methodLink "TypedHallModel" 53 yX6_fresh ∈ ac_gw := ac_in 684 (by decide +kernel) (by decide +kernel)
theorem wd_686 : Cond.instanceMethod yX6_fresh ∈ ac_gw := ac_in 686 (by decide +kernel) (by decide +kernel)
theorem wd_687 : Cond.code yX6_fresh prog_8_method_6_code 6 (some FieldType.int) ∈ ac_gw := ac_in 687 (by decide +kernel) (by decide +kernel)
theorem wd_688 : Cond.constantLong "TypedHallModel" 51 (-1 : Int64) ∈ ac_gw := ac_in 688 (by decide +kernel) (by decide +kernel)
theorem wd_689 : Cond.methodLink "TypedHallLaw" 112 yX6_grid ∈ ac_gw := ac_in 689 (by decide +kernel) (by decide +kernel)
theorem wd_690 : Cond.instanceMethod yX6_grid ∈ ac_gw := ac_in 690 (by decide +kernel) (by decide +kernel)
theorem wd_691 : Cond.selects "TypedHallModel" yX6_grid yX6_grid ∈ ac_gw := ac_in 691 (by decide +kernel) (by decide +kernel)
theorem wd_692 : Cond.code yX6_grid prog_8_method_8_code 5 (some FieldType.int) ∈ ac_gw := ac_in 692 (by decide +kernel) (by decide +kernel)
theorem wd_693 : Cond.methodLink "TypedHallLaw" 116 yX6_record ∈ ac_gw := ac_in 693 (by decide +kernel) (by decide +kernel)
theorem wd_694 : Cond.instanceMethod yX6_record ∈ ac_gw := ac_in 694 (by decide +kernel) (by decide +kernel)
theorem wd_695 : Cond.selects "TypedHallModel" yX6_record yX6_record ∈ ac_gw := ac_in 695 (by decide +kernel) (by decide +kernel)
theorem wd_696 : Cond.code yX6_record prog_8_method_9_code 2 (some FieldType.int) ∈ ac_gw := ac_in 696 (by decide +kernel) (by decide +kernel)
theorem wd_697 : Cond.methodLink "TypedHallLaw" 119 yX6_window ∈ ac_gw := ac_in 697 (by decide +kernel) (by decide +kernel)
theorem wd_698 : Cond.instanceMethod yX6_window ∈ ac_gw := ac_in 698 (by decide +kernel) (by decide +kernel)
theorem wd_699 : Cond.selects "TypedHallModel" yX6_window yX6_window ∈ ac_gw := ac_in 699 (by decide +kernel) (by decide +kernel)
theorem wd_700 : Cond.code yX6_window prog_8_method_13_code 6 (some FieldType.int) ∈ ac_gw := ac_in 700 (by decide +kernel) (by decide +kernel)
theorem wd_701 : Cond.methodLink "TypedHallModel" 61 yX6_known ∈ ac_gw := ac_in 701 (by decide +kernel) (by decide +kernel)
theorem wd_703 : Cond.instanceMethod yX6_known ∈ ac_gw := ac_in 703 (by decide +kernel) (by decide +kernel)
theorem wd_704 : Cond.code yX6_known prog_8_method_5_code 3 (some FieldType.boolean) ∈ ac_gw := ac_in 704 (by decide +kernel) (by decide +kernel)
theorem wd_705 : Cond.methodLink "TypedHallModel" 65 yX6_windows ∈ ac_gw := ac_in 705 (by decide +kernel) (by decide +kernel)
theorem wd_707 : Cond.instanceMethod yX6_windows ∈ ac_gw := ac_in 707 (by decide +kernel) (by decide +kernel)
theorem wd_708 : Cond.code yX6_windows prog_8_method_12_code 4 (some FieldType.int) ∈ ac_gw := ac_in 708 (by decide +kernel) (by decide +kernel)
theorem wd_709 : Cond.methodLink "TypedHallLaw" 123 yX6_copy ∈ ac_gw := ac_in 709 (by decide +kernel) (by decide +kernel)
theorem wd_710 : Cond.instanceMethod yX6_copy ∈ ac_gw := ac_in 710 (by decide +kernel) (by decide +kernel)
theorem wd_711 : Cond.selects "TypedHallModel" yX6_copy yX6_copy ∈ ac_gw := ac_in 711 (by decide +kernel) (by decide +kernel)
theorem wd_712 : Cond.code yX6_copy prog_8_method_14_code 5 (some FieldType.boolean) ∈ ac_gw := ac_in 712 (by decide +kernel) (by decide +kernel)
theorem wd_713 : Cond.methodLink "TypedHallLaw" 126 yX6_lose ∈ ac_gw := ac_in 713 (by decide +kernel) (by decide +kernel)
theorem wd_714 : Cond.instanceMethod yX6_lose ∈ ac_gw := ac_in 714 (by decide +kernel) (by decide +kernel)
theorem wd_715 : Cond.selects "TypedHallModel" yX6_lose yX6_lose ∈ ac_gw := ac_in 715 (by decide +kernel) (by decide +kernel)
theorem wd_716 : Cond.code yX6_lose prog_8_method_15_code 6 (some FieldType.int) ∈ ac_gw := ac_in 716 (by decide +kernel) (by decide +kernel)
theorem wd_717 : Cond.methodLink "TypedHallLaw" 129 yX6_resize ∈ ac_gw := ac_in 717 (by decide +kernel) (by decide +kernel)
theorem wd_718 : Cond.instanceMethod yX6_resize ∈ ac_gw := ac_in 718 (by decide +kernel) (by decide +kernel)
theorem wd_719 : Cond.selects "TypedHallModel" yX6_resize yX6_resize ∈ ac_gw := ac_in 719 (by decide +kernel) (by decide +kernel)
theorem wd_720 : Cond.code yX6_resize prog_8_method_16_code 6 (some FieldType.int) ∈ ac_gw := ac_in 720 (by decide +kernel) (by decide +kernel)
theorem wd_721 : Cond.methodLink "TypedHallLaw" 132 yX6_size ∈ ac_gw := ac_in 721 (by decide +kernel) (by decide +kernel)
theorem wd_722 : Cond.instanceMethod yX6_size ∈ ac_gw := ac_in 722 (by decide +kernel) (by decide +kernel)
theorem wd_723 : Cond.selects "TypedHallModel" yX6_size yX6_size ∈ ac_gw := ac_in 723 (by decide +kernel) (by decide +kernel)
theorem wd_724 : Cond.code yX6_size prog_8_method_17_code 5 (some FieldType.int) ∈ ac_gw := ac_in 724 (by decide +kernel) (by decide +kernel)
theorem wd_725 : Cond.methodLink "TypedHallLaw" 135 yX6_take ∈ ac_gw := ac_in 725 (by decide +kernel) (by decide +kernel)
theorem wd_726 : Cond.instanceMethod yX6_take ∈ ac_gw := ac_in 726 (by decide +kernel) (by decide +kernel)
theorem wd_727 : Cond.selects "TypedHallModel" yX6_take yX6_take ∈ ac_gw := ac_in 727 (by decide +kernel) (by decide +kernel)
theorem wd_728 : Cond.code yX6_take prog_8_method_23_code 3 (some FieldType.long) ∈ ac_gw := ac_in 728 (by decide +kernel) (by decide +kernel)
theorem wd_729 : Cond.methodLink "TypedHallModel" 91 yX6_reach ∈ ac_gw := ac_in 729 (by decide +kernel) (by decide +kernel)
theorem wd_731 : Cond.instanceMethod yX6_reach ∈ ac_gw := ac_in 731 (by decide +kernel) (by decide +kernel)
theorem wd_732 : Cond.code yX6_reach prog_8_method_22_code 5 (some FieldType.boolean) ∈ ac_gw := ac_in 732 (by decide +kernel) (by decide +kernel)
theorem wd_733 : Cond.methodLink "TypedHallModel" 84 yX6_sort ∈ ac_gw := ac_in 733 (by decide +kernel) (by decide +kernel)
theorem wd_735 : Cond.instanceMethod yX6_sort ∈ ac_gw := ac_in 735 (by decide +kernel) (by decide +kernel)
theorem wd_736 : Cond.code yX6_sort prog_8_method_11_code 2 (some FieldType.int) ∈ ac_gw := ac_in 736 (by decide +kernel) (by decide +kernel)
theorem wd_737 : Cond.methodLink "TypedHallModel" 57 yX6_bottom ∈ ac_gw := ac_in 737 (by decide +kernel) (by decide +kernel)
theorem wd_739 : Cond.instanceMethod yX6_bottom ∈ ac_gw := ac_in 739 (by decide +kernel) (by decide +kernel)
theorem wd_740 : Cond.code yX6_bottom prog_8_method_10_code 3 (some FieldType.int) ∈ ac_gw := ac_in 740 (by decide +kernel) (by decide +kernel)
theorem wd_741 : Cond.methodLink "TypedHallModel" 87 yX6_find ∈ ac_gw := ac_in 741 (by decide +kernel) (by decide +kernel)
theorem wd_743 : Cond.instanceMethod yX6_find ∈ ac_gw := ac_in 743 (by decide +kernel) (by decide +kernel)
theorem wd_744 : Cond.code yX6_find prog_8_method_18_code 4 (some FieldType.int) ∈ ac_gw := ac_in 744 (by decide +kernel) (by decide +kernel)
theorem wd_745 : Cond.methodLink "TypedHallModel" 80 yX6_here ∈ ac_gw := ac_in 745 (by decide +kernel) (by decide +kernel)
theorem wd_747 : Cond.instanceMethod yX6_here ∈ ac_gw := ac_in 747 (by decide +kernel) (by decide +kernel)
theorem wd_748 : Cond.code yX6_here prog_8_method_20_code 1 (some FieldType.long) ∈ ac_gw := ac_in 748 (by decide +kernel) (by decide +kernel)
theorem wd_749 : Cond.methodLink "TypedHallLaw" 141 yX6_put ∈ ac_gw := ac_in 749 (by decide +kernel) (by decide +kernel)
theorem wd_750 : Cond.instanceMethod yX6_put ∈ ac_gw := ac_in 750 (by decide +kernel) (by decide +kernel)
theorem wd_751 : Cond.selects "TypedHallModel" yX6_put yX6_put ∈ ac_gw := ac_in 751 (by decide +kernel) (by decide +kernel)
theorem wd_752 : Cond.code yX6_put prog_8_method_24_code 5 (some FieldType.long) ∈ ac_gw := ac_in 752 (by decide +kernel) (by decide +kernel)
theorem wd_753 : Cond.methodLink "TypedHallModel" 94 yX6_set ∈ ac_gw := ac_in 753 (by decide +kernel) (by decide +kernel)
theorem wd_755 : Cond.instanceMethod yX6_set ∈ ac_gw := ac_in 755 (by decide +kernel) (by decide +kernel)
theorem wd_756 : Cond.code yX6_set prog_8_method_21_code 3 (some FieldType.long) ∈ ac_gw := ac_in 756 (by decide +kernel) (by decide +kernel)
theorem wd_757 : Cond.methodLink "TypedHallModel" 76 yX6_fit ∈ ac_gw := ac_in 757 (by decide +kernel) (by decide +kernel)
theorem wd_758 : Cond.static yX6_fit ∈ ac_gw := ac_in 758 (by decide +kernel) (by decide +kernel)
theorem wd_759 : Cond.code yX6_fit prog_8_method_19_code 3 (some FieldType.long) ∈ ac_gw := ac_in 759 (by decide +kernel) (by decide +kernel)
theorem wd_760 : Cond.constantLong "TypedHallModel" 74 (65535 : Int64) ∈ ac_gw := ac_in 760 (by decide +kernel) (by decide +kernel)
theorem wd_761 : Cond.methodLink "TypedHallLaw" 144 yX6_cell ∈ ac_gw := ac_in 761 (by decide +kernel) (by decide +kernel)
theorem wd_762 : Cond.instanceMethod yX6_cell ∈ ac_gw := ac_in 762 (by decide +kernel) (by decide +kernel)
theorem wd_763 : Cond.selects "TypedHallModel" yX6_cell yX6_cell ∈ ac_gw := ac_in 763 (by decide +kernel) (by decide +kernel)
theorem wd_764 : Cond.code yX6_cell prog_8_method_27_code 4 (some FieldType.int) ∈ ac_gw := ac_in 764 (by decide +kernel) (by decide +kernel)
theorem wd_765 : Cond.methodLink "TypedHallModel" 98 yX6_row ∈ ac_gw := ac_in 765 (by decide +kernel) (by decide +kernel)
theorem wd_767 : Cond.instanceMethod yX6_row ∈ ac_gw := ac_in 767 (by decide +kernel) (by decide +kernel)
theorem wd_768 : Cond.code yX6_row prog_8_method_25_code 4 (some FieldType.boolean) ∈ ac_gw := ac_in 768 (by decide +kernel) (by decide +kernel)
theorem wd_769 : Cond.methodLink "TypedHallModel" 101 yX6_column ∈ ac_gw := ac_in 769 (by decide +kernel) (by decide +kernel)
theorem wd_771 : Cond.instanceMethod yX6_column ∈ ac_gw := ac_in 771 (by decide +kernel) (by decide +kernel)
theorem wd_772 : Cond.code yX6_column prog_8_method_26_code 5 (some FieldType.boolean) ∈ ac_gw := ac_in 772 (by decide +kernel) (by decide +kernel)
theorem wd_773 : Cond.methodLink "TypedHallLaw" 148 yX6_setCell ∈ ac_gw := ac_in 773 (by decide +kernel) (by decide +kernel)
theorem wd_774 : Cond.instanceMethod yX6_setCell ∈ ac_gw := ac_in 774 (by decide +kernel) (by decide +kernel)
theorem wd_775 : Cond.selects "TypedHallModel" yX6_setCell yX6_setCell ∈ ac_gw := ac_in 775 (by decide +kernel) (by decide +kernel)
theorem wd_776 : Cond.code yX6_setCell prog_8_method_28_code 6 none ∈ ac_gw := ac_in 776 (by decide +kernel) (by decide +kernel)
theorem wd_777 : Cond.methodLink "TypedHallLaw" 152 yX6_refer ∈ ac_gw := ac_in 777 (by decide +kernel) (by decide +kernel)
theorem wd_778 : Cond.instanceMethod yX6_refer ∈ ac_gw := ac_in 778 (by decide +kernel) (by decide +kernel)
theorem wd_779 : Cond.selects "TypedHallModel" yX6_refer yX6_refer ∈ ac_gw := ac_in 779 (by decide +kernel) (by decide +kernel)
theorem wd_780 : Cond.code yX6_refer prog_8_method_30_code 4 none ∈ ac_gw := ac_in 780 (by decide +kernel) (by decide +kernel)
theorem wd_781 : Cond.methodLink "TypedHallModel" 104 yX6_reachItem ∈ ac_gw := ac_in 781 (by decide +kernel) (by decide +kernel)
theorem wd_783 : Cond.instanceMethod yX6_reachItem ∈ ac_gw := ac_in 783 (by decide +kernel) (by decide +kernel)
theorem wd_784 : Cond.code yX6_reachItem prog_8_method_29_code 4 (some FieldType.boolean) ∈ ac_gw := ac_in 784 (by decide +kernel) (by decide +kernel)
theorem wd_785 : Cond.methodLink "TypedHallLaw" 155 yX6_fetch ∈ ac_gw := ac_in 785 (by decide +kernel) (by decide +kernel)
theorem wd_786 : Cond.instanceMethod yX6_fetch ∈ ac_gw := ac_in 786 (by decide +kernel) (by decide +kernel)
theorem wd_787 : Cond.selects "TypedHallModel" yX6_fetch yX6_fetch ∈ ac_gw := ac_in 787 (by decide +kernel) (by decide +kernel)
theorem wd_788 : Cond.code yX6_fetch prog_8_method_31_code 5 (some FieldType.int) ∈ ac_gw := ac_in 788 (by decide +kernel) (by decide +kernel)
theorem wd_789 : Cond.methodLink "TypedHallLaw" 159 yX6_link ∈ ac_gw := ac_in 789 (by decide +kernel) (by decide +kernel)
theorem wd_790 : Cond.instanceMethod yX6_link ∈ ac_gw := ac_in 790 (by decide +kernel) (by decide +kernel)
theorem wd_791 : Cond.selects "TypedHallModel" yX6_link yX6_link ∈ ac_gw := ac_in 791 (by decide +kernel) (by decide +kernel)
theorem wd_792 : Cond.code yX6_link prog_8_method_33_code 4 none ∈ ac_gw := ac_in 792 (by decide +kernel) (by decide +kernel)
theorem wd_793 : Cond.methodLink "TypedHallModel" 107 yX6_isRecord ∈ ac_gw := ac_in 793 (by decide +kernel) (by decide +kernel)
theorem wd_795 : Cond.instanceMethod yX6_isRecord ∈ ac_gw := ac_in 795 (by decide +kernel) (by decide +kernel)
theorem wd_796 : Cond.code yX6_isRecord prog_8_method_32_code 3 (some FieldType.boolean) ∈ ac_gw := ac_in 796 (by decide +kernel) (by decide +kernel)
theorem wd_797 : Cond.methodLink "TypedHallLaw" 162 yX6_follow ∈ ac_gw := ac_in 797 (by decide +kernel) (by decide +kernel)
theorem wd_798 : Cond.instanceMethod yX6_follow ∈ ac_gw := ac_in 798 (by decide +kernel) (by decide +kernel)
theorem wd_799 : Cond.selects "TypedHallModel" yX6_follow yX6_follow ∈ ac_gw := ac_in 799 (by decide +kernel) (by decide +kernel)
theorem wd_800 : Cond.code yX6_follow prog_8_method_34_code 3 (some FieldType.boolean) ∈ ac_gw := ac_in 800 (by decide +kernel) (by decide +kernel)
theorem wd_801 : Cond.methodLink "TypedHallLaw" 166 yX6_exchange ∈ ac_gw := ac_in 801 (by decide +kernel) (by decide +kernel)
theorem wd_802 : Cond.instanceMethod yX6_exchange ∈ ac_gw := ac_in 802 (by decide +kernel) (by decide +kernel)
theorem wd_803 : Cond.selects "TypedHallModel" yX6_exchange yX6_exchange ∈ ac_gw := ac_in 803 (by decide +kernel) (by decide +kernel)
theorem wd_804 : Cond.code yX6_exchange prog_8_method_35_code 7 (some FieldType.long) ∈ ac_gw := ac_in 804 (by decide +kernel) (by decide +kernel)
theorem wd_805 : Cond.methodLink "TypedHallLaw" 169 yX6_total ∈ ac_gw := ac_in 805 (by decide +kernel) (by decide +kernel)
theorem wd_806 : Cond.instanceMethod yX6_total ∈ ac_gw := ac_in 806 (by decide +kernel) (by decide +kernel)
theorem wd_807 : Cond.selects "TypedHallModel" yX6_total yX6_total ∈ ac_gw := ac_in 807 (by decide +kernel) (by decide +kernel)
theorem wd_808 : Cond.code yX6_total prog_8_method_36_code 6 (some FieldType.long) ∈ ac_gw := ac_in 808 (by decide +kernel) (by decide +kernel)
theorem wd_809 : Cond.methodLink "TypedHallLaw" 173 yX6_combine ∈ ac_gw := ac_in 809 (by decide +kernel) (by decide +kernel)
theorem wd_810 : Cond.instanceMethod yX6_combine ∈ ac_gw := ac_in 810 (by decide +kernel) (by decide +kernel)
theorem wd_811 : Cond.selects "TypedHallModel" yX6_combine yX6_combine ∈ ac_gw := ac_in 811 (by decide +kernel) (by decide +kernel)
theorem wd_812 : Cond.code yX6_combine prog_8_method_39_code 15 (some FieldType.long) ∈ ac_gw := ac_in 812 (by decide +kernel) (by decide +kernel)
theorem wd_813 : Cond.methodLink "TypedHallModel" 111 yX6_both ∈ ac_gw := ac_in 813 (by decide +kernel) (by decide +kernel)
theorem wd_815 : Cond.instanceMethod yX6_both ∈ ac_gw := ac_in 815 (by decide +kernel) (by decide +kernel)
theorem wd_816 : Cond.code yX6_both prog_8_method_37_code 6 (some FieldType.boolean) ∈ ac_gw := ac_in 816 (by decide +kernel) (by decide +kernel)
theorem wd_817 : Cond.methodLink "TypedHallModel" 114 yX6_reckon ∈ ac_gw := ac_in 817 (by decide +kernel) (by decide +kernel)
theorem wd_818 : Cond.static yX6_reckon ∈ ac_gw := ac_in 818 (by decide +kernel) (by decide +kernel)
theorem wd_819 : Cond.code yX6_reckon prog_8_method_38_code 5 (some FieldType.long) ∈ ac_gw := ac_in 819 (by decide +kernel) (by decide +kernel)
theorem wd_820 : Cond.methodLink "TypedHallLaw" 176 yX6_move ∈ ac_gw := ac_in 820 (by decide +kernel) (by decide +kernel)
theorem wd_821 : Cond.instanceMethod yX6_move ∈ ac_gw := ac_in 821 (by decide +kernel) (by decide +kernel)
theorem wd_822 : Cond.selects "TypedHallModel" yX6_move yX6_move ∈ ac_gw := ac_in 822 (by decide +kernel) (by decide +kernel)
theorem wd_823 : Cond.code yX6_move prog_8_method_40_code 9 (some FieldType.int) ∈ ac_gw := ac_in 823 (by decide +kernel) (by decide +kernel)
theorem wd_824 : Cond.constantLong "TypedHallLaw" 136 (4294967295 : Int64) ∈ ac_gw := ac_in 824 (by decide +kernel) (by decide +kernel)
end
section
/-! ===== the methods: data, code, contract ===== -/
-- J7_copyOf_c38d5
abbrev rm_J7_copyOf_c38d5 : Room := { frames := 1, cells := 2, slots := 48, locals := 80 }
abbrev M_J7_copyOf_c38d5 : ac_D := (RJ7, "copyOf", cJ7_copyOf_c38d5, 3, some (FieldType.array FieldType.long), [], rm_J7_copyOf_c38d5)
theorem tb_J7_copyOf_c38d5 : ac_tb RJ7 [] := fun q h => (by cases h)
theorem dy_J7_copyOf_c38d5 : yJ7_copyOf_c38d5.cls ≠ "java/lang/invoke/MethodHandle" ∧ yJ7_copyOf_c38d5.cls ≠ "java/lang/invoke/VarHandle" ∧ (parseMethodDescriptor yJ7_copyOf_c38d5.desc).map (fun d => d.parameters.length) = some 2 := by decide +kernel
def k_J7_copyOf_c38d5 : List (Nat × ac_op) := [(0, op_iload 1 1),
  (1, op_aload 0 2),
  (2, op_alen 2 3),
  (3, op_icmp (fun x y => ¬ x = y) 14 6),
  (6, op_aload 0 7),
  (7, op_cloneJ rm_J7_copyOf_c38d5 10),
  (10, op_castJ 13),
  (13, op_areturn rm_J7_copyOf_c38d5),
  (14, op_iload 1 15),
  (15, op_newa rm_J7_copyOf_c38d5 2 17),
  (17, op_astore 2 18),
  (18, op_aload 0 19),
  (19, op_push (.int 0) 20),
  (20, op_aload 2 21),
  (21, op_push (.int 0) 22),
  (22, op_aload 0 23),
  (23, op_alen 2 24),
  (24, op_iload 1 25),
  (25, op_min rm_J7_copyOf_c38d5 28),
  (28, op_copyJ 31),
  (31, op_aload 2 32),
  (32, op_areturn rm_J7_copyOf_c38d5)]
def T_J7_copyOf_c38d5 : ac_T := ac_vc k_J7_copyOf_c38d5 3
set_option maxRecDepth 100000 in
set_option maxHeartbeats 4000000 in
theorem s_J7_copyOf_c38d5 : ∀ x ∈ k_J7_copyOf_c38d5, ac_So M_J7_copyOf_c38d5 (fun _ _ _ => False) x.1 x.2 :=
  ac_cons (so_iload_n dJ7_copyOf_c38d5_0 rfl rfl) <|
  ac_cons (so_aload_n dJ7_copyOf_c38d5_1 rfl rfl) <|
  ac_cons (so_alen (t := 2) (ty := .long) (fun _ => rfl) dJ7_copyOf_c38d5_2 rfl) <|
  ac_cons (so_icmp_ne dJ7_copyOf_c38d5_3 (by decide) rfl) <|
  ac_cons (so_aload_n dJ7_copyOf_c38d5_6 rfl rfl) <|
  ac_cons (so_cloneJ dJ7_copyOf_c38d5_7 wd_452 (by decide +kernel) (by decide +kernel) ⟨by decide, by decide⟩ rfl) <|
  ac_cons (so_castJ dJ7_copyOf_c38d5_10 wd_458 rfl) <|
  ac_cons (so_areturn rfl (by first | exact Or.inl ⟨_, rfl⟩ | exact Or.inr ⟨_, rfl⟩) dJ7_copyOf_c38d5_13) <|
  ac_cons (so_iload_n dJ7_copyOf_c38d5_14 rfl rfl) <|
  ac_cons (so_newJ wd_211 dJ7_copyOf_c38d5_15 rfl) <|
  ac_cons (so_astore_n dJ7_copyOf_c38d5_17 rfl rfl) <|
  ac_cons (so_aload_n dJ7_copyOf_c38d5_18 rfl rfl) <|
  ac_cons (so_iconst dJ7_copyOf_c38d5_19 (by decide +kernel) rfl) <|
  ac_cons (so_aload_n dJ7_copyOf_c38d5_20 rfl rfl) <|
  ac_cons (so_iconst dJ7_copyOf_c38d5_21 (by decide +kernel) rfl) <|
  ac_cons (so_aload_n dJ7_copyOf_c38d5_22 rfl rfl) <|
  ac_cons (so_alen (t := 2) (ty := .long) (fun _ => rfl) dJ7_copyOf_c38d5_23 rfl) <|
  ac_cons (so_iload_n dJ7_copyOf_c38d5_24 rfl rfl) <|
  ac_cons (so_min dJ7_copyOf_c38d5_25 wd_459 ac_mw2 ⟨by decide, by decide⟩ rfl) <|
  ac_cons (so_copyJ dJ7_copyOf_c38d5_28 wd_460 (by decide +kernel) ⟨by decide, by decide +kernel⟩ rfl) <|
  ac_cons (so_aload_n dJ7_copyOf_c38d5_31 rfl rfl) <|
  ac_cons (so_areturn rfl (by first | exact Or.inl ⟨_, rfl⟩ | exact Or.inr ⟨_, rfl⟩) dJ7_copyOf_c38d5_32) <| ac_nil
theorem C_J7_copyOf_c38d5 : ac_Ct yJ7_copyOf_c38d5 M_J7_copyOf_c38d5 T_J7_copyOf_c38d5 := ac_meth (by decide +kernel) rfl rfl rfl rfl s_J7_copyOf_c38d5
-- X1_init
abbrev rm_X1_init : Room := { frames := 1, cells := 0, slots := 0, locals := 20 }
abbrev M_X1_init : ac_D := (RX1, "<init>", cX1_init, 1, none, [], rm_X1_init)
theorem tb_X1_init : ac_tb RX1 [] := fun q h => (by cases h)
theorem dy_X1_init : yX1_init.cls ≠ "java/lang/invoke/MethodHandle" ∧ yX1_init.cls ≠ "java/lang/invoke/VarHandle" ∧ (parseMethodDescriptor yX1_init.desc).map (fun d => d.parameters.length) = some 0 := by decide +kernel
def k_X1_init : List (Nat × ac_op) := [(0, op_aload 0 1),
  (1, op_objinit 4),
  (4, op_return rm_X1_init)]
def T_X1_init : ac_T := ac_vc k_X1_init 1
set_option maxRecDepth 100000 in
set_option maxHeartbeats 4000000 in
theorem s_X1_init : ∀ x ∈ k_X1_init, ac_So M_X1_init (fun _ _ _ => False) x.1 x.2 :=
  ac_cons (so_aload_n dX1_init_0 rfl rfl) <|
  ac_cons (so_objinit dX1_init_1 wd_194 wd_52 wd_53 ⟨by decide, by decide⟩ rfl) <|
  ac_cons (so_return rfl dX1_init_4) <| ac_nil
theorem C_X1_init : ac_Ct yX1_init M_X1_init T_X1_init := ac_meth (by decide +kernel) rfl rfl rfl rfl s_X1_init
-- X0_init
abbrev rm_X0_init : Room := { frames := 2, cells := 7, slots := 30, locals := 40 }
abbrev M_X0_init : ac_D := (RX0, "<init>", cX0_init, 3, none, [], rm_X0_init)
theorem tb_X0_init : ac_tb RX0 [] := fun q h => (by cases h)
theorem dy_X0_init : yX0_init.cls ≠ "java/lang/invoke/MethodHandle" ∧ yX0_init.cls ≠ "java/lang/invoke/VarHandle" ∧ (parseMethodDescriptor yX0_init.desc).map (fun d => d.parameters.length) = some 2 := by decide +kernel
def k_X0_init : List (Nat × ac_op) := [(0, op_aload 0 1),
  (1, op_callI rm_X0_init [] T_X1_init rm_X1_init 0 1 4),
  (4, op_aload 0 5),
  (5, op_iload 1 6),
  (6, op_iload 2 7),
  (7, op_mnew rm_X0_init 11),
  (11, op_put 4 0 14),
  (14, op_return rm_X0_init)]
def T_X0_init : ac_T := ac_vc k_X0_init 3
set_option maxRecDepth 100000 in
set_option maxHeartbeats 4000000 in
theorem s_X0_init : ∀ x ∈ k_X0_init, ac_So M_X0_init (fun _ _ _ => False) x.1 x.2 :=
  ac_cons (so_aload_n dX0_init_0 rfl rfl) <|
  ac_cons (so_callIN (N := M_X1_init) C_X1_init rfl rfl ⟨wd_193, wd_32, dy_X1_init, ⟨by decide, by decide⟩, tb_X0_init⟩ dX0_init_1 wd_228 wd_192 rfl rfl) <|
  ac_cons (so_aload_n dX0_init_4 rfl rfl) <|
  ac_cons (so_iload_n dX0_init_5 rfl rfl) <|
  ac_cons (so_iload_n dX0_init_6 rfl rfl) <|
  ac_cons (so_mnew dX0_init_7 wd_229 wd_210 rfl) <|
  ac_cons (so_putF (ci := 4) (f := 0) rfl in_X0 tyX0_ok nmX0 (by decide) rfl rfl rfl rfl dX0_init_11 wd_231 rfl) <|
  ac_cons (so_return rfl dX0_init_14) <| ac_nil
theorem C_X0_init : ac_Ct yX0_init M_X0_init T_X0_init := ac_meth (by decide +kernel) rfl rfl rfl rfl s_X0_init
-- X0_sort
abbrev rm_X0_sort : Room := { frames := 0, cells := 0, slots := 0, locals := 0 }
abbrev M_X0_sort : ac_D := (RX0, "sort", cX0_sort, 1, some FieldType.int, [], rm_X0_sort)
theorem tb_X0_sort : ac_tb RX0 [] := fun q h => (by cases h)
theorem dy_X0_sort : yX0_sort.cls ≠ "java/lang/invoke/MethodHandle" ∧ yX0_sort.cls ≠ "java/lang/invoke/VarHandle" ∧ (parseMethodDescriptor yX0_sort.desc).map (fun d => d.parameters.length) = some 0 := by decide +kernel
def k_X0_sort : List (Nat × ac_op) := [(0, op_push (.int 9) 2),
  (2, op_ireturn rm_X0_sort)]
def T_X0_sort : ac_T := ac_vc k_X0_sort 1
set_option maxRecDepth 100000 in
set_option maxHeartbeats 4000000 in
theorem s_X0_sort : ∀ x ∈ k_X0_sort, ac_So M_X0_sort (fun _ _ _ => False) x.1 x.2 :=
  ac_cons (so_bipush dX0_sort_0 (by decide +kernel) rfl) <|
  ac_cons (so_ireturn rfl dX0_sort_2) <| ac_nil
theorem C_X0_sort : ac_Ct yX0_sort M_X0_sort T_X0_sort := ac_meth (by decide +kernel) rfl rfl rfl rfl s_X0_sort
-- X1_ground
abbrev rm_X1_ground : Room := { frames := 0, cells := 0, slots := 0, locals := 0 }
abbrev M_X1_ground : ac_D := (RX1, "ground", cX1_ground, 1, some (FieldType.object "TypedHall$VectorItem"), [], rm_X1_ground)
theorem tb_X1_ground : ac_tb RX1 [] := fun q h => (by cases h)
theorem dy_X1_ground : yX1_ground.cls ≠ "java/lang/invoke/MethodHandle" ∧ yX1_ground.cls ≠ "java/lang/invoke/VarHandle" ∧ (parseMethodDescriptor yX1_ground.desc).map (fun d => d.parameters.length) = some 0 := by decide +kernel
def k_X1_ground : List (Nat × ac_op) := [(0, op_push .null 1),
  (1, op_areturn rm_X1_ground)]
def T_X1_ground : ac_T := ac_vc k_X1_ground 1
set_option maxRecDepth 100000 in
set_option maxHeartbeats 4000000 in
theorem s_X1_ground : ∀ x ∈ k_X1_ground, ac_So M_X1_ground (fun _ _ _ => False) x.1 x.2 :=
  ac_cons (so_null dX1_ground_0 rfl) <|
  ac_cons (so_areturn rfl (by first | exact Or.inl ⟨_, rfl⟩ | exact Or.inr ⟨_, rfl⟩) dX1_ground_1) <| ac_nil
theorem C_X1_ground : ac_Ct yX1_ground M_X1_ground T_X1_ground := ac_meth (by decide +kernel) rfl rfl rfl rfl s_X1_ground
-- X1_shift
abbrev rm_X1_shift : Room := { frames := 0, cells := 0, slots := 0, locals := 0 }
abbrev M_X1_shift : ac_D := (RX1, "shift", cX1_shift, 1, some FieldType.int, [], rm_X1_shift)
theorem tb_X1_shift : ac_tb RX1 [] := fun q h => (by cases h)
theorem dy_X1_shift : yX1_shift.cls ≠ "java/lang/invoke/MethodHandle" ∧ yX1_shift.cls ≠ "java/lang/invoke/VarHandle" ∧ (parseMethodDescriptor yX1_shift.desc).map (fun d => d.parameters.length) = some 0 := by decide +kernel
def k_X1_shift : List (Nat × ac_op) := [(0, op_push (.int 0) 1),
  (1, op_ireturn rm_X1_shift)]
def T_X1_shift : ac_T := ac_vc k_X1_shift 1
set_option maxRecDepth 100000 in
set_option maxHeartbeats 4000000 in
theorem s_X1_shift : ∀ x ∈ k_X1_shift, ac_So M_X1_shift (fun _ _ _ => False) x.1 x.2 :=
  ac_cons (so_iconst dX1_shift_0 (by decide +kernel) rfl) <|
  ac_cons (so_ireturn rfl dX1_shift_1) <| ac_nil
theorem C_X1_shift : ac_Ct yX1_shift M_X1_shift T_X1_shift := ac_meth (by decide +kernel) rfl rfl rfl rfl s_X1_shift
-- X1_windows
abbrev rm_X1_windows : Room := { frames := 0, cells := 0, slots := 0, locals := 0 }
abbrev M_X1_windows : ac_D := (RX1, "windows", cX1_windows, 1, some FieldType.int, [], rm_X1_windows)
theorem tb_X1_windows : ac_tb RX1 [] := fun q h => (by cases h)
theorem dy_X1_windows : yX1_windows.cls ≠ "java/lang/invoke/MethodHandle" ∧ yX1_windows.cls ≠ "java/lang/invoke/VarHandle" ∧ (parseMethodDescriptor yX1_windows.desc).map (fun d => d.parameters.length) = some 0 := by decide +kernel
def k_X1_windows : List (Nat × ac_op) := [(0, op_push (.int 0) 1),
  (1, op_ireturn rm_X1_windows)]
def T_X1_windows : ac_T := ac_vc k_X1_windows 1
set_option maxRecDepth 100000 in
set_option maxHeartbeats 4000000 in
theorem s_X1_windows : ∀ x ∈ k_X1_windows, ac_So M_X1_windows (fun _ _ _ => False) x.1 x.2 :=
  ac_cons (so_iconst dX1_windows_0 (by decide +kernel) rfl) <|
  ac_cons (so_ireturn rfl dX1_windows_1) <| ac_nil
theorem C_X1_windows : ac_Ct yX1_windows M_X1_windows T_X1_windows := ac_meth (by decide +kernel) rfl rfl rfl rfl s_X1_windows
-- X2_init
abbrev rm_X2_init : Room := { frames := 2, cells := 0, slots := 0, locals := 40 }
abbrev M_X2_init : ac_D := (RX2, "<init>", cX2_init, 1, none, [], rm_X2_init)
theorem tb_X2_init : ac_tb RX2 [] := fun q h => (by cases h)
theorem dy_X2_init : yX2_init.cls ≠ "java/lang/invoke/MethodHandle" ∧ yX2_init.cls ≠ "java/lang/invoke/VarHandle" ∧ (parseMethodDescriptor yX2_init.desc).map (fun d => d.parameters.length) = some 0 := by decide +kernel
def k_X2_init : List (Nat × ac_op) := [(0, op_aload 0 1),
  (1, op_callI rm_X2_init [] T_X1_init rm_X1_init 0 1 4),
  (4, op_aload 0 5),
  (5, op_push (.long 0) 6),
  (6, op_put 5 0 9),
  (9, op_aload 0 10),
  (10, op_push .null 11),
  (11, op_put 5 1 14),
  (14, op_return rm_X2_init)]
def T_X2_init : ac_T := ac_vc k_X2_init 1
set_option maxRecDepth 100000 in
set_option maxHeartbeats 4000000 in
theorem s_X2_init : ∀ x ∈ k_X2_init, ac_So M_X2_init (fun _ _ _ => False) x.1 x.2 :=
  ac_cons (so_aload_n dX2_init_0 rfl rfl) <|
  ac_cons (so_callIN (N := M_X1_init) C_X1_init rfl rfl ⟨wd_193, wd_32, dy_X1_init, ⟨by decide, by decide⟩, tb_X2_init⟩ dX2_init_1 wd_248 wd_192 rfl rfl) <|
  ac_cons (so_aload_n dX2_init_4 rfl rfl) <|
  ac_cons (so_lconst dX2_init_5 (by decide +kernel) rfl) <|
  ac_cons (so_put (ci := 5) (f := 0) rfl in_X2 tyX2_ok nmX2 (by decide) rfl rfl dX2_init_6 wd_249 rfl) <|
  ac_cons (so_aload_n dX2_init_9 rfl rfl) <|
  ac_cons (so_null dX2_init_10 rfl) <|
  ac_cons (so_put (ci := 5) (f := 1) rfl in_X2 tyX2_ok nmX2 (by decide) rfl rfl dX2_init_11 wd_251 rfl) <|
  ac_cons (so_return rfl dX2_init_14) <| ac_nil
theorem C_X2_init : ac_Ct yX2_init M_X2_init T_X2_init := ac_meth (by decide +kernel) rfl rfl rfl rfl s_X2_init
-- X2_sort
abbrev rm_X2_sort : Room := { frames := 0, cells := 0, slots := 0, locals := 0 }
abbrev M_X2_sort : ac_D := (RX2, "sort", cX2_sort, 1, some FieldType.int, [], rm_X2_sort)
theorem tb_X2_sort : ac_tb RX2 [] := fun q h => (by cases h)
theorem dy_X2_sort : yX2_sort.cls ≠ "java/lang/invoke/MethodHandle" ∧ yX2_sort.cls ≠ "java/lang/invoke/VarHandle" ∧ (parseMethodDescriptor yX2_sort.desc).map (fun d => d.parameters.length) = some 0 := by decide +kernel
def k_X2_sort : List (Nat × ac_op) := [(0, op_push (.int 10) 2),
  (2, op_ireturn rm_X2_sort)]
def T_X2_sort : ac_T := ac_vc k_X2_sort 1
set_option maxRecDepth 100000 in
set_option maxHeartbeats 4000000 in
theorem s_X2_sort : ∀ x ∈ k_X2_sort, ac_So M_X2_sort (fun _ _ _ => False) x.1 x.2 :=
  ac_cons (so_bipush dX2_sort_0 (by decide +kernel) rfl) <|
  ac_cons (so_ireturn rfl dX2_sort_2) <| ac_nil
theorem C_X2_sort : ac_Ct yX2_sort M_X2_sort T_X2_sort := ac_meth (by decide +kernel) rfl rfl rfl rfl s_X2_sort
-- X3_init
abbrev rm_X3_init : Room := { frames := 2, cells := 2, slots := 48, locals := 40 }
abbrev M_X3_init : ac_D := (RX3, "<init>", cX3_init, 3, none, [], rm_X3_init)
theorem tb_X3_init : ac_tb RX3 [] := fun q h => (by cases h)
theorem dy_X3_init : yX3_init.cls ≠ "java/lang/invoke/MethodHandle" ∧ yX3_init.cls ≠ "java/lang/invoke/VarHandle" ∧ (parseMethodDescriptor yX3_init.desc).map (fun d => d.parameters.length) = some 2 := by decide +kernel
def k_X3_init : List (Nat × ac_op) := [(0, op_aload 0 1),
  (1, op_callI rm_X3_init [] T_X1_init rm_X1_init 0 1 4),
  (4, op_aload 0 5),
  (5, op_iload 1 6),
  (6, op_put 6 0 9),
  (9, op_iload 1 10),
  (10, op_push (.int 8) 12),
  (12, op_icmp (fun x y => ¬ x = y) 26 15),
  (15, op_aload 0 16),
  (16, op_iload 2 17),
  (17, op_newa rm_X3_init 3 20),
  (20, op_put 6 2 23),
  (23, op_goto 33),
  (26, op_aload 0 27),
  (27, op_iload 2 28),
  (28, op_newa rm_X3_init 2 30),
  (30, op_put 6 1 33),
  (33, op_return rm_X3_init)]
def T_X3_init : ac_T := ac_vc k_X3_init 3
set_option maxRecDepth 100000 in
set_option maxHeartbeats 4000000 in
theorem s_X3_init : ∀ x ∈ k_X3_init, ac_So M_X3_init (fun _ _ _ => False) x.1 x.2 :=
  ac_cons (so_aload_n dX3_init_0 rfl rfl) <|
  ac_cons (so_callIN (N := M_X1_init) C_X1_init rfl rfl ⟨wd_193, wd_32, dy_X1_init, ⟨by decide, by decide⟩, tb_X3_init⟩ dX3_init_1 wd_191 wd_192 rfl rfl) <|
  ac_cons (so_aload_n dX3_init_4 rfl rfl) <|
  ac_cons (so_iload_n dX3_init_5 rfl rfl) <|
  ac_cons (so_putF (ci := 6) (f := 0) rfl in_X3 tyX3_ok nmX3 (by decide) rfl rfl rfl rfl dX3_init_6 wd_196 rfl) <|
  ac_cons (so_iload_n dX3_init_9 rfl rfl) <|
  ac_cons (so_bipush dX3_init_10 (by decide +kernel) rfl) <|
  ac_cons (so_icmp_ne dX3_init_12 (by decide) rfl) <|
  ac_cons (so_aload_n dX3_init_15 rfl rfl) <|
  ac_cons (so_iload_n dX3_init_16 rfl rfl) <|
  ac_cons (so_newq dX3_init_17 wd_195 rfl) <|
  ac_cons (so_put (ci := 6) (f := 2) rfl in_X3 tyX3_ok nmX3 (by decide) rfl rfl dX3_init_20 wd_201 rfl) <|
  ac_cons (so_goto dX3_init_23 (by decide)) <|
  ac_cons (so_aload_n dX3_init_26 rfl rfl) <|
  ac_cons (so_iload_n dX3_init_27 rfl rfl) <|
  ac_cons (so_newJ wd_211 dX3_init_28 rfl) <|
  ac_cons (so_put (ci := 6) (f := 1) rfl in_X3 tyX3_ok nmX3 (by decide) rfl rfl dX3_init_30 wd_199 rfl) <|
  ac_cons (so_return rfl dX3_init_33) <| ac_nil
theorem C_X3_init : ac_Ct yX3_init M_X3_init T_X3_init := ac_meth (by decide +kernel) rfl rfl rfl rfl s_X3_init
-- X3_sort
abbrev rm_X3_sort : Room := { frames := 0, cells := 0, slots := 0, locals := 0 }
abbrev M_X3_sort : ac_D := (RX3, "sort", cX3_sort, 1, some FieldType.int, [], rm_X3_sort)
theorem tb_X3_sort : ac_tb RX3 [] := fun q h => (by cases h)
theorem dy_X3_sort : yX3_sort.cls ≠ "java/lang/invoke/MethodHandle" ∧ yX3_sort.cls ≠ "java/lang/invoke/VarHandle" ∧ (parseMethodDescriptor yX3_sort.desc).map (fun d => d.parameters.length) = some 0 := by decide +kernel
def k_X3_sort : List (Nat × ac_op) := [(0, op_aload 0 1),
  (1, op_get 6 0 4),
  (4, op_ireturn rm_X3_sort)]
def T_X3_sort : ac_T := ac_vc k_X3_sort 1
set_option maxRecDepth 100000 in
set_option maxHeartbeats 4000000 in
theorem s_X3_sort : ∀ x ∈ k_X3_sort, ac_So M_X3_sort (fun _ _ _ => False) x.1 x.2 :=
  ac_cons (so_aload_n dX3_sort_0 rfl rfl) <|
  ac_cons (so_get (ci := 6) (f := 0) rfl in_X3 (by decide) dX3_sort_1 wd_196 rfl) <|
  ac_cons (so_ireturn rfl dX3_sort_4) <| ac_nil
theorem C_X3_sort : ac_Ct yX3_sort M_X3_sort T_X3_sort := ac_meth (by decide +kernel) rfl rfl rfl rfl s_X3_sort
-- X3_ground
abbrev rm_X3_ground : Room := { frames := 0, cells := 0, slots := 0, locals := 0 }
abbrev M_X3_ground : ac_D := (RX3, "ground", cX3_ground, 1, some (FieldType.object "TypedHall$VectorItem"), [], rm_X3_ground)
theorem tb_X3_ground : ac_tb RX3 [] := fun q h => (by cases h)
theorem dy_X3_ground : yX3_ground.cls ≠ "java/lang/invoke/MethodHandle" ∧ yX3_ground.cls ≠ "java/lang/invoke/VarHandle" ∧ (parseMethodDescriptor yX3_ground.desc).map (fun d => d.parameters.length) = some 0 := by decide +kernel
def k_X3_ground : List (Nat × ac_op) := [(0, op_aload 0 1),
  (1, op_areturn rm_X3_ground)]
def T_X3_ground : ac_T := ac_vc k_X3_ground 1
set_option maxRecDepth 100000 in
set_option maxHeartbeats 4000000 in
theorem s_X3_ground : ∀ x ∈ k_X3_ground, ac_So M_X3_ground (fun _ _ _ => False) x.1 x.2 :=
  ac_cons (so_aload_n dX3_ground_0 rfl rfl) <|
  ac_cons (so_areturn rfl (by first | exact Or.inl ⟨_, rfl⟩ | exact Or.inr ⟨_, rfl⟩) dX3_ground_1) <| ac_nil
theorem C_X3_ground : ac_Ct yX3_ground M_X3_ground T_X3_ground := ac_meth (by decide +kernel) rfl rfl rfl rfl s_X3_ground
-- X3_isLost
abbrev rm_X3_isLost : Room := { frames := 0, cells := 0, slots := 0, locals := 0 }
abbrev M_X3_isLost : ac_D := (RX3, "isLost", cX3_isLost, 1, some FieldType.boolean, [], rm_X3_isLost)
theorem tb_X3_isLost : ac_tb RX3 [] := fun q h => (by cases h)
theorem dy_X3_isLost : yX3_isLost.cls ≠ "java/lang/invoke/MethodHandle" ∧ yX3_isLost.cls ≠ "java/lang/invoke/VarHandle" ∧ (parseMethodDescriptor yX3_isLost.desc).map (fun d => d.parameters.length) = some 0 := by decide +kernel
def k_X3_isLost : List (Nat × ac_op) := [(0, op_aload 0 1),
  (1, op_get 6 1 4),
  (4, op_ifnonnull 18 7),
  (7, op_aload 0 8),
  (8, op_get 6 2 11),
  (11, op_ifnonnull 18 14),
  (14, op_push (.int 1) 15),
  (15, op_goto 19),
  (18, op_push (.int 0) 19),
  (19, op_zreturn rm_X3_isLost)]
def T_X3_isLost : ac_T := ac_vc k_X3_isLost 1
set_option maxRecDepth 100000 in
set_option maxHeartbeats 4000000 in
theorem s_X3_isLost : ∀ x ∈ k_X3_isLost, ac_So M_X3_isLost (fun _ _ _ => False) x.1 x.2 :=
  ac_cons (so_aload_n dX3_isLost_0 rfl rfl) <|
  ac_cons (so_get (ci := 6) (f := 1) rfl in_X3 (by decide) dX3_isLost_1 wd_199 rfl) <|
  ac_cons (so_ifnonnull dX3_isLost_4 (by decide) rfl) <|
  ac_cons (so_aload_n dX3_isLost_7 rfl rfl) <|
  ac_cons (so_get (ci := 6) (f := 2) rfl in_X3 (by decide) dX3_isLost_8 wd_201 rfl) <|
  ac_cons (so_ifnonnull dX3_isLost_11 (by decide) rfl) <|
  ac_cons (so_iconst dX3_isLost_14 (by decide +kernel) rfl) <|
  ac_cons (so_goto dX3_isLost_15 (by decide)) <|
  ac_cons (so_iconst dX3_isLost_18 (by decide +kernel) rfl) <|
  ac_cons (so_zreturn rfl dX3_isLost_19) <| ac_nil
theorem C_X3_isLost : ac_Ct yX3_isLost M_X3_isLost T_X3_isLost := ac_meth (by decide +kernel) rfl rfl rfl rfl s_X3_isLost
-- X3_length
abbrev rm_X3_length : Room := { frames := 0, cells := 0, slots := 0, locals := 0 }
abbrev M_X3_length : ac_D := (RX3, "length", cX3_length, 1, some FieldType.int, [], rm_X3_length)
theorem tb_X3_length : ac_tb RX3 [] := fun q h => (by cases h)
theorem dy_X3_length : yX3_length.cls ≠ "java/lang/invoke/MethodHandle" ∧ yX3_length.cls ≠ "java/lang/invoke/VarHandle" ∧ (parseMethodDescriptor yX3_length.desc).map (fun d => d.parameters.length) = some 0 := by decide +kernel
def k_X3_length : List (Nat × ac_op) := [(0, op_aload 0 1),
  (1, op_get 6 1 4),
  (4, op_ifnull 13 7),
  (7, op_aload 0 8),
  (8, op_get 6 1 11),
  (11, op_alen 2 12),
  (12, op_ireturn rm_X3_length),
  (13, op_aload 0 14),
  (14, op_get 6 2 17),
  (17, op_ifnull 28 20),
  (20, op_aload 0 21),
  (21, op_get 6 2 24),
  (24, op_alen 3 25),
  (25, op_goto 29),
  (28, op_push (.int 0) 29),
  (29, op_ireturn rm_X3_length)]
def T_X3_length : ac_T := ac_vc k_X3_length 1
set_option maxRecDepth 100000 in
set_option maxHeartbeats 4000000 in
theorem s_X3_length : ∀ x ∈ k_X3_length, ac_So M_X3_length (fun _ _ _ => False) x.1 x.2 :=
  ac_cons (so_aload_n dX3_length_0 rfl rfl) <|
  ac_cons (so_get (ci := 6) (f := 1) rfl in_X3 (by decide) dX3_length_1 wd_199 rfl) <|
  ac_cons (so_ifnull dX3_length_4 (by decide) rfl) <|
  ac_cons (so_aload_n dX3_length_7 rfl rfl) <|
  ac_cons (so_get (ci := 6) (f := 1) rfl in_X3 (by decide) dX3_length_8 wd_199 rfl) <|
  ac_cons (so_alen (t := 2) (ty := .long) (fun _ => rfl) dX3_length_11 rfl) <|
  ac_cons (so_ireturn rfl dX3_length_12) <|
  ac_cons (so_aload_n dX3_length_13 rfl rfl) <|
  ac_cons (so_get (ci := 6) (f := 2) rfl in_X3 (by decide) dX3_length_14 wd_201 rfl) <|
  ac_cons (so_ifnull dX3_length_17 (by decide) rfl) <|
  ac_cons (so_aload_n dX3_length_20 rfl rfl) <|
  ac_cons (so_get (ci := 6) (f := 2) rfl in_X3 (by decide) dX3_length_21 wd_201 rfl) <|
  ac_cons (so_alen (t := 3) (ty := .object "TypedHall$Item") (fun _ => rfl) dX3_length_24 rfl) <|
  ac_cons (so_goto dX3_length_25 (by decide)) <|
  ac_cons (so_iconst dX3_length_28 (by decide +kernel) rfl) <|
  ac_cons (so_ireturn rfl dX3_length_29) <| ac_nil
theorem C_X3_length : ac_Ct yX3_length M_X3_length T_X3_length := ac_meth (by decide +kernel) rfl rfl rfl rfl s_X3_length
-- X3_dropStorage
abbrev rm_X3_dropStorage : Room := { frames := 0, cells := 0, slots := 0, locals := 0 }
abbrev M_X3_dropStorage : ac_D := (RX3, "dropStorage", cX3_dropStorage, 1, none, [], rm_X3_dropStorage)
theorem tb_X3_dropStorage : ac_tb RX3 [] := fun q h => (by cases h)
theorem dy_X3_dropStorage : yX3_dropStorage.cls ≠ "java/lang/invoke/MethodHandle" ∧ yX3_dropStorage.cls ≠ "java/lang/invoke/VarHandle" ∧ (parseMethodDescriptor yX3_dropStorage.desc).map (fun d => d.parameters.length) = some 0 := by decide +kernel
def k_X3_dropStorage : List (Nat × ac_op) := [(0, op_aload 0 1),
  (1, op_push .null 2),
  (2, op_put 6 1 5),
  (5, op_aload 0 6),
  (6, op_push .null 7),
  (7, op_put 6 2 10),
  (10, op_return rm_X3_dropStorage)]
def T_X3_dropStorage : ac_T := ac_vc k_X3_dropStorage 1
set_option maxRecDepth 100000 in
set_option maxHeartbeats 4000000 in
theorem s_X3_dropStorage : ∀ x ∈ k_X3_dropStorage, ac_So M_X3_dropStorage (fun _ _ _ => False) x.1 x.2 :=
  ac_cons (so_aload_n dX3_dropStorage_0 rfl rfl) <|
  ac_cons (so_null dX3_dropStorage_1 rfl) <|
  ac_cons (so_put (ci := 6) (f := 1) rfl in_X3 tyX3_ok nmX3 (by decide) rfl rfl dX3_dropStorage_2 wd_199 rfl) <|
  ac_cons (so_aload_n dX3_dropStorage_5 rfl rfl) <|
  ac_cons (so_null dX3_dropStorage_6 rfl) <|
  ac_cons (so_put (ci := 6) (f := 2) rfl in_X3 tyX3_ok nmX3 (by decide) rfl rfl dX3_dropStorage_7 wd_201 rfl) <|
  ac_cons (so_return rfl dX3_dropStorage_10) <| ac_nil
theorem C_X3_dropStorage : ac_Ct yX3_dropStorage M_X3_dropStorage T_X3_dropStorage := ac_meth (by decide +kernel) rfl rfl rfl rfl s_X3_dropStorage
-- X3_firstItems
abbrev rm_X3_firstItems : Room := { frames := 0, cells := 1, slots := 24, locals := 0 }
abbrev M_X3_firstItems : ac_D := (RX3, "firstItems", cX3_firstItems, 5, some (FieldType.array (FieldType.object "TypedHall$Item")), [], rm_X3_firstItems)
theorem tb_X3_firstItems : ac_tb RX3 [] := fun q h => (by cases h)
theorem dy_X3_firstItems : yX3_firstItems.cls ≠ "java/lang/invoke/MethodHandle" ∧ yX3_firstItems.cls ≠ "java/lang/invoke/VarHandle" ∧ (parseMethodDescriptor yX3_firstItems.desc).map (fun d => d.parameters.length) = some 2 := by decide +kernel
def k_X3_firstItems : List (Nat × ac_op) := [(0, op_iload 2 1),
  (1, op_newa rm_X3_firstItems 3 4),
  (4, op_astore 3 5),
  (5, op_push (.int 0) 6),
  (6, op_istore 4 8),
  (8, op_iload 4 10),
  (10, op_iload 1 11),
  (11, op_icmp (fun x y => y ≤ x) 31 14),
  (14, op_aload 3 15),
  (15, op_iload 4 17),
  (17, op_aload 0 18),
  (18, op_get 6 2 21),
  (21, op_iload 4 23),
  (23, op_aald 3 24),
  (24, op_aast 3 25),
  (25, op_iinc 4 1 28),
  (28, op_goto 8),
  (31, op_aload 3 32),
  (32, op_areturn rm_X3_firstItems)]
def T_X3_firstItems : ac_T := ac_vc k_X3_firstItems 5
set_option maxRecDepth 100000 in
set_option maxHeartbeats 4000000 in
theorem s_X3_firstItems : ∀ x ∈ k_X3_firstItems, ac_So M_X3_firstItems (fun _ _ _ => False) x.1 x.2 :=
  ac_cons (so_iload_n dX3_firstItems_0 rfl rfl) <|
  ac_cons (so_newq dX3_firstItems_1 wd_195 rfl) <|
  ac_cons (so_astore_n dX3_firstItems_4 rfl rfl) <|
  ac_cons (so_iconst dX3_firstItems_5 (by decide +kernel) rfl) <|
  ac_cons (so_istore dX3_firstItems_6 rfl) <|
  ac_cons (so_iload dX3_firstItems_8 rfl) <|
  ac_cons (so_iload_n dX3_firstItems_10 rfl rfl) <|
  ac_cons (so_icmp_ge dX3_firstItems_11 (by decide) rfl) <|
  ac_cons (so_aload_n dX3_firstItems_14 rfl rfl) <|
  ac_cons (so_iload dX3_firstItems_15 rfl) <|
  ac_cons (so_aload_n dX3_firstItems_17 rfl rfl) <|
  ac_cons (so_get (ci := 6) (f := 2) rfl in_X3 (by decide) dX3_firstItems_18 wd_201 rfl) <|
  ac_cons (so_iload dX3_firstItems_21 rfl) <|
  ac_cons (so_aald3 dX3_firstItems_23 rfl) <|
  ac_cons (so_aast3 dX3_firstItems_24 rfl) <|
  ac_cons (so_iinc dX3_firstItems_25 (by decide +kernel) rfl) <|
  ac_cons (so_goto dX3_firstItems_28 (by decide)) <|
  ac_cons (so_aload_n dX3_firstItems_31 rfl rfl) <|
  ac_cons (so_areturn rfl (by first | exact Or.inl ⟨_, rfl⟩ | exact Or.inr ⟨_, rfl⟩) dX3_firstItems_32) <| ac_nil
theorem C_X3_firstItems : ac_Ct yX3_firstItems M_X3_firstItems T_X3_firstItems := ac_meth (by decide +kernel) rfl rfl rfl rfl s_X3_firstItems
-- X3_changeLength
abbrev rm_X3_changeLength : Room := { frames := 2, cells := 3, slots := 72, locals := 102 }
abbrev M_X3_changeLength : ac_D := (RX3, "changeLength", cX3_changeLength, 3, some FieldType.int, [], rm_X3_changeLength)
theorem tb_X3_changeLength : ac_tb RX3 [] := fun q h => (by cases h)
theorem dy_X3_changeLength : yX3_changeLength.cls ≠ "java/lang/invoke/MethodHandle" ∧ yX3_changeLength.cls ≠ "java/lang/invoke/VarHandle" ∧ (parseMethodDescriptor yX3_changeLength.desc).map (fun d => d.parameters.length) = some 1 := by decide +kernel
def k_X3_changeLength : List (Nat × ac_op) := [(0, op_aload 0 1),
  (1, op_callV rm_X3_changeLength [] 6 T_X3_length rm_X3_length 0 1 4),
  (4, op_iload 1 5),
  (5, op_min rm_X3_changeLength 8),
  (8, op_istore 2 9),
  (9, op_aload 0 10),
  (10, op_get 6 1 13),
  (13, op_ifnull 31 16),
  (16, op_aload 0 17),
  (17, op_aload 0 18),
  (18, op_get 6 1 21),
  (21, op_iload 1 22),
  (22, op_callS rm_X3_changeLength [] T_J7_copyOf_c38d5 rm_J7_copyOf_c38d5 2 22 25),
  (25, op_put 6 1 28),
  (28, op_goto 48),
  (31, op_aload 0 32),
  (32, op_get 6 2 35),
  (35, op_ifnull 48 38),
  (38, op_aload 0 39),
  (39, op_aload 0 40),
  (40, op_iload 2 41),
  (41, op_iload 1 42),
  (42, op_callV rm_X3_changeLength [] 6 T_X3_firstItems rm_X3_firstItems 2 42 45),
  (45, op_put 6 2 48),
  (48, op_iload 2 49),
  (49, op_ireturn rm_X3_changeLength)]
def T_X3_changeLength : ac_T := ac_vc k_X3_changeLength 3
set_option maxRecDepth 100000 in
set_option maxHeartbeats 4000000 in
theorem s_X3_changeLength : ∀ x ∈ k_X3_changeLength, ac_So M_X3_changeLength (fun _ _ _ => False) x.1 x.2 :=
  ac_cons (so_aload_n dX3_changeLength_0 rfl rfl) <|
  ac_cons (so_callV (N := M_X3_length) (ci := 6) C_X3_length rfl ⟨wd_429, wd_33, dy_X3_length, ⟨by decide, by decide⟩, tb_X3_changeLength⟩ rfl dX3_changeLength_1 wd_445 wd_427 wd_428 rfl) <|
  ac_cons (so_iload_n dX3_changeLength_4 rfl rfl) <|
  ac_cons (so_min dX3_changeLength_5 wd_446 ac_mw2 ⟨by decide, by decide⟩ rfl) <|
  ac_cons (so_istore_n dX3_changeLength_8 rfl rfl) <|
  ac_cons (so_aload_n dX3_changeLength_9 rfl rfl) <|
  ac_cons (so_get (ci := 6) (f := 1) rfl in_X3 (by decide) dX3_changeLength_10 wd_199 rfl) <|
  ac_cons (so_ifnull dX3_changeLength_13 (by decide) rfl) <|
  ac_cons (so_aload_n dX3_changeLength_16 rfl rfl) <|
  ac_cons (so_aload_n dX3_changeLength_17 rfl rfl) <|
  ac_cons (so_get (ci := 6) (f := 1) rfl in_X3 (by decide) dX3_changeLength_18 wd_199 rfl) <|
  ac_cons (so_iload_n dX3_changeLength_21 rfl rfl) <|
  ac_cons (so_callS (N := M_J7_copyOf_c38d5) C_J7_copyOf_c38d5 rfl ⟨wd_451, wd_43, dy_J7_copyOf_c38d5, ⟨by decide, by decide⟩, tb_X3_changeLength⟩ dX3_changeLength_22 wd_449 wd_450 rfl) <|
  ac_cons (so_put (ci := 6) (f := 1) rfl in_X3 tyX3_ok nmX3 (by decide) rfl rfl dX3_changeLength_25 wd_199 rfl) <|
  ac_cons (so_goto dX3_changeLength_28 (by decide)) <|
  ac_cons (so_aload_n dX3_changeLength_31 rfl rfl) <|
  ac_cons (so_get (ci := 6) (f := 2) rfl in_X3 (by decide) dX3_changeLength_32 wd_201 rfl) <|
  ac_cons (so_ifnull dX3_changeLength_35 (by decide) rfl) <|
  ac_cons (so_aload_n dX3_changeLength_38 rfl rfl) <|
  ac_cons (so_aload_n dX3_changeLength_39 rfl rfl) <|
  ac_cons (so_iload_n dX3_changeLength_40 rfl rfl) <|
  ac_cons (so_iload_n dX3_changeLength_41 rfl rfl) <|
  ac_cons (so_callV (N := M_X3_firstItems) (ci := 6) C_X3_firstItems rfl ⟨wd_466, wd_33, dy_X3_firstItems, ⟨by decide, by decide⟩, tb_X3_changeLength⟩ rfl dX3_changeLength_42 wd_463 wd_465 wd_4 rfl) <|
  ac_cons (so_put (ci := 6) (f := 2) rfl in_X3 tyX3_ok nmX3 (by decide) rfl rfl dX3_changeLength_45 wd_201 rfl) <|
  ac_cons (so_iload_n dX3_changeLength_48 rfl rfl) <|
  ac_cons (so_ireturn rfl dX3_changeLength_49) <| ac_nil
theorem C_X3_changeLength : ac_Ct yX3_changeLength M_X3_changeLength T_X3_changeLength := ac_meth (by decide +kernel) rfl rfl rfl rfl s_X3_changeLength
-- X4_init
abbrev rm_X4_init : Room := { frames := 2, cells := 0, slots := 0, locals := 40 }
abbrev M_X4_init : ac_D := (RX4, "<init>", cX4_init, 4, none, [], rm_X4_init)
theorem tb_X4_init : ac_tb RX4 [] := fun q h => (by cases h)
theorem dy_X4_init : yX4_init.cls ≠ "java/lang/invoke/MethodHandle" ∧ yX4_init.cls ≠ "java/lang/invoke/VarHandle" ∧ (parseMethodDescriptor yX4_init.desc).map (fun d => d.parameters.length) = some 3 := by decide +kernel
def k_X4_init : List (Nat × ac_op) := [(0, op_aload 0 1),
  (1, op_callI rm_X4_init [] T_X1_init rm_X1_init 0 1 4),
  (4, op_aload 0 5),
  (5, op_aload 1 6),
  (6, op_put 7 0 9),
  (9, op_aload 0 10),
  (10, op_iload 2 11),
  (11, op_put 7 1 14),
  (14, op_aload 0 15),
  (15, op_iload 3 16),
  (16, op_put 7 2 19),
  (19, op_return rm_X4_init)]
def T_X4_init : ac_T := ac_vc k_X4_init 4
set_option maxRecDepth 100000 in
set_option maxHeartbeats 4000000 in
theorem s_X4_init : ∀ x ∈ k_X4_init, ac_So M_X4_init (fun _ _ _ => False) x.1 x.2 :=
  ac_cons (so_aload_n dX4_init_0 rfl rfl) <|
  ac_cons (so_callIN (N := M_X1_init) C_X1_init rfl rfl ⟨wd_193, wd_32, dy_X1_init, ⟨by decide, by decide⟩, tb_X4_init⟩ dX4_init_1 wd_364 wd_192 rfl rfl) <|
  ac_cons (so_aload_n dX4_init_4 rfl rfl) <|
  ac_cons (so_aload_n dX4_init_5 rfl rfl) <|
  ac_cons (so_putF (ci := 7) (f := 0) rfl in_X4 tyX4_ok nmX4 (by decide) rfl rfl rfl rfl dX4_init_6 wd_365 rfl) <|
  ac_cons (so_aload_n dX4_init_9 rfl rfl) <|
  ac_cons (so_iload_n dX4_init_10 rfl rfl) <|
  ac_cons (so_putF (ci := 7) (f := 1) rfl in_X4 tyX4_ok nmX4 (by decide) rfl rfl rfl rfl dX4_init_11 wd_366 rfl) <|
  ac_cons (so_aload_n dX4_init_14 rfl rfl) <|
  ac_cons (so_iload_n dX4_init_15 rfl rfl) <|
  ac_cons (so_putF (ci := 7) (f := 2) rfl in_X4 tyX4_ok nmX4 (by decide) rfl rfl rfl rfl dX4_init_16 wd_367 rfl) <|
  ac_cons (so_return rfl dX4_init_19) <| ac_nil
theorem C_X4_init : ac_Ct yX4_init M_X4_init T_X4_init := ac_meth (by decide +kernel) rfl rfl rfl rfl s_X4_init
-- X4_sort
abbrev rm_X4_sort : Room := { frames := 0, cells := 0, slots := 0, locals := 0 }
abbrev M_X4_sort : ac_D := (RX4, "sort", cX4_sort, 1, some FieldType.int, [], rm_X4_sort)
theorem tb_X4_sort : ac_tb RX4 [] := fun q h => (by cases h)
theorem dy_X4_sort : yX4_sort.cls ≠ "java/lang/invoke/MethodHandle" ∧ yX4_sort.cls ≠ "java/lang/invoke/VarHandle" ∧ (parseMethodDescriptor yX4_sort.desc).map (fun d => d.parameters.length) = some 0 := by decide +kernel
def k_X4_sort : List (Nat × ac_op) := [(0, op_aload 0 1),
  (1, op_get 7 0 4),
  (4, op_get 6 0 7),
  (7, op_ireturn rm_X4_sort)]
def T_X4_sort : ac_T := ac_vc k_X4_sort 1
set_option maxRecDepth 100000 in
set_option maxHeartbeats 4000000 in
theorem s_X4_sort : ∀ x ∈ k_X4_sort, ac_So M_X4_sort (fun _ _ _ => False) x.1 x.2 :=
  ac_cons (so_aload_n dX4_sort_0 rfl rfl) <|
  ac_cons (so_get (ci := 7) (f := 0) rfl in_X4 (by decide) dX4_sort_1 wd_365 rfl) <|
  ac_cons (so_getN (ci := 6) (f := 0) rfl in_X3 (by decide) dX4_sort_4 wd_197 rfl) <|
  ac_cons (so_ireturn rfl dX4_sort_7) <| ac_nil
theorem C_X4_sort : ac_Ct yX4_sort M_X4_sort T_X4_sort := ac_meth (by decide +kernel) rfl rfl rfl rfl s_X4_sort
-- X4_ground
abbrev rm_X4_ground : Room := { frames := 0, cells := 0, slots := 0, locals := 0 }
abbrev M_X4_ground : ac_D := (RX4, "ground", cX4_ground, 1, some (FieldType.object "TypedHall$VectorItem"), [], rm_X4_ground)
theorem tb_X4_ground : ac_tb RX4 [] := fun q h => (by cases h)
theorem dy_X4_ground : yX4_ground.cls ≠ "java/lang/invoke/MethodHandle" ∧ yX4_ground.cls ≠ "java/lang/invoke/VarHandle" ∧ (parseMethodDescriptor yX4_ground.desc).map (fun d => d.parameters.length) = some 0 := by decide +kernel
def k_X4_ground : List (Nat × ac_op) := [(0, op_aload 0 1),
  (1, op_get 7 0 4),
  (4, op_areturn rm_X4_ground)]
def T_X4_ground : ac_T := ac_vc k_X4_ground 1
set_option maxRecDepth 100000 in
set_option maxHeartbeats 4000000 in
theorem s_X4_ground : ∀ x ∈ k_X4_ground, ac_So M_X4_ground (fun _ _ _ => False) x.1 x.2 :=
  ac_cons (so_aload_n dX4_ground_0 rfl rfl) <|
  ac_cons (so_get (ci := 7) (f := 0) rfl in_X4 (by decide) dX4_ground_1 wd_365 rfl) <|
  ac_cons (so_areturn rfl (by first | exact Or.inl ⟨_, rfl⟩ | exact Or.inr ⟨_, rfl⟩) dX4_ground_4) <| ac_nil
theorem C_X4_ground : ac_Ct yX4_ground M_X4_ground T_X4_ground := ac_meth (by decide +kernel) rfl rfl rfl rfl s_X4_ground
-- X4_shift
abbrev rm_X4_shift : Room := { frames := 0, cells := 0, slots := 0, locals := 0 }
abbrev M_X4_shift : ac_D := (RX4, "shift", cX4_shift, 1, some FieldType.int, [], rm_X4_shift)
theorem tb_X4_shift : ac_tb RX4 [] := fun q h => (by cases h)
theorem dy_X4_shift : yX4_shift.cls ≠ "java/lang/invoke/MethodHandle" ∧ yX4_shift.cls ≠ "java/lang/invoke/VarHandle" ∧ (parseMethodDescriptor yX4_shift.desc).map (fun d => d.parameters.length) = some 0 := by decide +kernel
def k_X4_shift : List (Nat × ac_op) := [(0, op_aload 0 1),
  (1, op_get 7 1 4),
  (4, op_ireturn rm_X4_shift)]
def T_X4_shift : ac_T := ac_vc k_X4_shift 1
set_option maxRecDepth 100000 in
set_option maxHeartbeats 4000000 in
theorem s_X4_shift : ∀ x ∈ k_X4_shift, ac_So M_X4_shift (fun _ _ _ => False) x.1 x.2 :=
  ac_cons (so_aload_n dX4_shift_0 rfl rfl) <|
  ac_cons (so_get (ci := 7) (f := 1) rfl in_X4 (by decide) dX4_shift_1 wd_366 rfl) <|
  ac_cons (so_ireturn rfl dX4_shift_4) <| ac_nil
theorem C_X4_shift : ac_Ct yX4_shift M_X4_shift T_X4_shift := ac_meth (by decide +kernel) rfl rfl rfl rfl s_X4_shift
-- X4_windows
abbrev rm_X4_windows : Room := { frames := 0, cells := 0, slots := 0, locals := 0 }
abbrev M_X4_windows : ac_D := (RX4, "windows", cX4_windows, 1, some FieldType.int, [], rm_X4_windows)
theorem tb_X4_windows : ac_tb RX4 [] := fun q h => (by cases h)
theorem dy_X4_windows : yX4_windows.cls ≠ "java/lang/invoke/MethodHandle" ∧ yX4_windows.cls ≠ "java/lang/invoke/VarHandle" ∧ (parseMethodDescriptor yX4_windows.desc).map (fun d => d.parameters.length) = some 0 := by decide +kernel
def k_X4_windows : List (Nat × ac_op) := [(0, op_aload 0 1),
  (1, op_get 7 2 4),
  (4, op_ireturn rm_X4_windows)]
def T_X4_windows : ac_T := ac_vc k_X4_windows 1
set_option maxRecDepth 100000 in
set_option maxHeartbeats 4000000 in
theorem s_X4_windows : ∀ x ∈ k_X4_windows, ac_So M_X4_windows (fun _ _ _ => False) x.1 x.2 :=
  ac_cons (so_aload_n dX4_windows_0 rfl rfl) <|
  ac_cons (so_get (ci := 7) (f := 2) rfl in_X4 (by decide) dX4_windows_1 wd_367 rfl) <|
  ac_cons (so_ireturn rfl dX4_windows_4) <| ac_nil
theorem C_X4_windows : ac_Ct yX4_windows M_X4_windows T_X4_windows := ac_meth (by decide +kernel) rfl rfl rfl rfl s_X4_windows
end
section
/-! ===== the methods: data, code, contract ===== -/
-- X5_init
abbrev rm_X5_init : Room := { frames := 1, cells := 1, slots := 8, locals := 20 }
abbrev M_X5_init : ac_D := (RX5, "<init>", cX5_init, 1, none, [], rm_X5_init)
theorem tb_X5_init : ac_tb RX5 [] := fun q h => (by cases h)
theorem dy_X5_init : yX5_init.cls ≠ "java/lang/invoke/MethodHandle" ∧ yX5_init.cls ≠ "java/lang/invoke/VarHandle" ∧ (parseMethodDescriptor yX5_init.desc).map (fun d => d.parameters.length) = some 0 := by decide +kernel
def k_X5_init : List (Nat × ac_op) := [(0, op_aload 0 1),
  (1, op_objinit 4),
  (4, op_aload 0 5),
  (5, op_push (.int 8) 7),
  (7, op_newa rm_X5_init 3 10),
  (10, op_put 8 0 13),
  (13, op_aload 0 14),
  (14, op_push (.int 0) 15),
  (15, op_put 8 1 18),
  (18, op_return rm_X5_init)]
def T_X5_init : ac_T := ac_vc k_X5_init 1
set_option maxRecDepth 100000 in
set_option maxHeartbeats 4000000 in
theorem s_X5_init : ∀ x ∈ k_X5_init, ac_So M_X5_init (fun _ _ _ => False) x.1 x.2 :=
  ac_cons (so_aload_n dX5_init_0 rfl rfl) <|
  ac_cons (so_objinit dX5_init_1 wd_51 wd_52 wd_53 ⟨by decide, by decide⟩ rfl) <|
  ac_cons (so_aload_n dX5_init_4 rfl rfl) <|
  ac_cons (so_bipush dX5_init_5 (by decide +kernel) rfl) <|
  ac_cons (so_newq dX5_init_7 wd_54 rfl) <|
  ac_cons (so_putF (ci := 8) (f := 0) rfl in_X5 tyX5_ok nmX5 (by decide) rfl rfl rfl rfl dX5_init_10 wd_56 rfl) <|
  ac_cons (so_aload_n dX5_init_13 rfl rfl) <|
  ac_cons (so_iconst dX5_init_14 (by decide +kernel) rfl) <|
  ac_cons (so_put (ci := 8) (f := 1) rfl in_X5 tyX5_ok nmX5 (by decide) rfl rfl dX5_init_15 wd_57 rfl) <|
  ac_cons (so_return rfl dX5_init_18) <| ac_nil
theorem C_X5_init : ac_Ct yX5_init M_X5_init T_X5_init := ac_meth (by decide +kernel) rfl rfl rfl rfl s_X5_init
-- X5_requireArgument
abbrev rm_X5_requireArgument : Room := { frames := 6, cells := 1, slots := 6, locals := 81 }
abbrev M_X5_requireArgument : ac_D := (RX5, "requireArgument", cX5_requireArgument, 1, none, [], rm_X5_requireArgument)
theorem tb_X5_requireArgument : ac_tb RX5 [] := fun q h => (by cases h)
theorem dy_X5_requireArgument : yX5_requireArgument.cls ≠ "java/lang/invoke/MethodHandle" ∧ yX5_requireArgument.cls ≠ "java/lang/invoke/VarHandle" ∧ (parseMethodDescriptor yX5_requireArgument.desc).map (fun d => d.parameters.length) = some 1 := by decide +kernel
def k_X5_requireArgument : List (Nat × ac_op) := [(0, op_iload 0 1),
  (1, op_if (fun x => ¬ x = 0) 12 4),
  (4, op_throw rm_X5_requireArgument 0),
  (12, op_return rm_X5_requireArgument)]
def T_X5_requireArgument : ac_T := ac_vc k_X5_requireArgument 1
set_option maxRecDepth 100000 in
set_option maxHeartbeats 4000000 in
theorem s_X5_requireArgument : ∀ x ∈ k_X5_requireArgument, ac_So M_X5_requireArgument (fun _ _ _ => False) x.1 x.2 :=
  ac_cons (so_iload_n dX5_requireArgument_0 rfl rfl) <|
  ac_cons (so_if_ne dX5_requireArgument_1 (by decide) rfl) <|
  ac_cons (so_throw (x := 0) (names := ["java/lang/RuntimeException", "java/lang/Exception"]) rfl (by decide +kernel) (by decide +kernel) (by decide +kernel) dX5_requireArgument_4 dX5_requireArgument_7 dX5_requireArgument_8 dX5_requireArgument_11 ⟨by decide, by decide⟩) <|
  ac_cons (so_return rfl dX5_requireArgument_12) <| ac_nil
theorem C_X5_requireArgument : ac_Ct yX5_requireArgument M_X5_requireArgument T_X5_requireArgument := ac_meth (by decide +kernel) rfl rfl rfl rfl s_X5_requireArgument
-- X5_requireRegister
abbrev rm_X5_requireRegister : Room := { frames := 7, cells := 1, slots := 6, locals := 101 }
abbrev M_X5_requireRegister : ac_D := (RX5, "requireRegister", cX5_requireRegister, 1, none, [], rm_X5_requireRegister)
theorem tb_X5_requireRegister : ac_tb RX5 [] := fun q h => (by cases h)
theorem dy_X5_requireRegister : yX5_requireRegister.cls ≠ "java/lang/invoke/MethodHandle" ∧ yX5_requireRegister.cls ≠ "java/lang/invoke/VarHandle" ∧ (parseMethodDescriptor yX5_requireRegister.desc).map (fun d => d.parameters.length) = some 1 := by decide +kernel
def k_X5_requireRegister : List (Nat × ac_op) := [(0, op_iload 0 1),
  (1, op_if (fun x => x < 0) 14 4),
  (4, op_iload 0 5),
  (5, op_push (.int 8) 7),
  (7, op_icmp (fun x y => y ≤ x) 14 10),
  (10, op_push (.int 1) 11),
  (11, op_goto 15),
  (14, op_push (.int 0) 15),
  (15, op_callS rm_X5_requireRegister [] T_X5_requireArgument rm_X5_requireArgument 1 15 18),
  (18, op_return rm_X5_requireRegister)]
def T_X5_requireRegister : ac_T := ac_vc k_X5_requireRegister 1
set_option maxRecDepth 100000 in
set_option maxHeartbeats 4000000 in
theorem s_X5_requireRegister : ∀ x ∈ k_X5_requireRegister, ac_So M_X5_requireRegister (fun _ _ _ => False) x.1 x.2 :=
  ac_cons (so_iload_n dX5_requireRegister_0 rfl rfl) <|
  ac_cons (so_if_lt dX5_requireRegister_1 (by decide) rfl) <|
  ac_cons (so_iload_n dX5_requireRegister_4 rfl rfl) <|
  ac_cons (so_bipush dX5_requireRegister_5 (by decide +kernel) rfl) <|
  ac_cons (so_icmp_ge dX5_requireRegister_7 (by decide) rfl) <|
  ac_cons (so_iconst dX5_requireRegister_10 (by decide +kernel) rfl) <|
  ac_cons (so_goto dX5_requireRegister_11 (by decide)) <|
  ac_cons (so_iconst dX5_requireRegister_14 (by decide +kernel) rfl) <|
  ac_cons (so_callS (N := M_X5_requireArgument) C_X5_requireArgument rfl ⟨wd_161, wd_24, dy_X5_requireArgument, ⟨by decide, by decide⟩, tb_X5_requireRegister⟩ dX5_requireRegister_15 wd_159 wd_160 rfl) <|
  ac_cons (so_return rfl dX5_requireRegister_18) <| ac_nil
theorem C_X5_requireRegister : ac_Ct yX5_requireRegister M_X5_requireRegister T_X5_requireRegister := ac_meth (by decide +kernel) rfl rfl rfl rfl s_X5_requireRegister
-- X5_requireSize
abbrev rm_X5_requireSize : Room := { frames := 7, cells := 3, slots := 222, locals := 10240 }
abbrev M_X5_requireSize : ac_D := (RX5, "requireSize", cX5_requireSize, 2, none, [], rm_X5_requireSize)
theorem tb_X5_requireSize : ac_tb RX5 [] := fun q h => (by cases h)
theorem dy_X5_requireSize : yX5_requireSize.cls ≠ "java/lang/invoke/MethodHandle" ∧ yX5_requireSize.cls ≠ "java/lang/invoke/VarHandle" ∧ (parseMethodDescriptor yX5_requireSize.desc).map (fun d => d.parameters.length) = some 1 := by decide +kernel
def k_X5_requireSize : List (Nat × ac_op) := [(0, op_iload 0 1),
  (1, op_if (fun x => 0 ≤ x) 8 4),
  (4, op_iload 0 5),
  (5, op_nas rm_X5_requireSize),
  (8, op_return rm_X5_requireSize)]
def T_X5_requireSize : ac_T := ac_vc k_X5_requireSize 2
set_option maxRecDepth 100000 in
set_option maxHeartbeats 4000000 in
theorem s_X5_requireSize : ∀ x ∈ k_X5_requireSize, ac_So M_X5_requireSize (fun _ _ _ => False) x.1 x.2 :=
  ac_cons (so_iload_n dX5_requireSize_0 rfl rfl) <|
  ac_cons (so_if_ge dX5_requireSize_1 (by decide) rfl) <|
  ac_cons (so_iload_n dX5_requireSize_4 rfl rfl) <|
  ac_cons (so_nas rfl at_M4 dX5_requireSize_5 ⟨by decide, by decide⟩) <|
  ac_cons (so_return rfl dX5_requireSize_8) <| ac_nil
theorem C_X5_requireSize : ac_Ct yX5_requireSize M_X5_requireSize T_X5_requireSize := ac_meth (by decide +kernel) rfl rfl rfl rfl s_X5_requireSize
-- X5_holdNew
abbrev rm_X5_holdNew : Room := { frames := 0, cells := 0, slots := 0, locals := 0 }
abbrev M_X5_holdNew : ac_D := (RX5, "holdNew", cX5_holdNew, 3, some FieldType.int, [], rm_X5_holdNew)
theorem tb_X5_holdNew : ac_tb RX5 [] := fun q h => (by cases h)
theorem dy_X5_holdNew : yX5_holdNew.cls ≠ "java/lang/invoke/MethodHandle" ∧ yX5_holdNew.cls ≠ "java/lang/invoke/VarHandle" ∧ (parseMethodDescriptor yX5_holdNew.desc).map (fun d => d.parameters.length) = some 2 := by decide +kernel
def k_X5_holdNew : List (Nat × ac_op) := [(0, op_aload 0 1),
  (1, op_get 8 0 4),
  (4, op_iload 1 5),
  (5, op_aload 2 6),
  (6, op_aast 3 7),
  (7, op_aload 0 8),
  (8, op_dup 9),
  (9, op_get 8 1 12),
  (12, op_push (.int 1) 13),
  (13, op_ii (fun x y => x + y) 14),
  (14, op_put 8 1 17),
  (17, op_aload 0 18),
  (18, op_get 8 1 21),
  (21, op_ireturn rm_X5_holdNew)]
def T_X5_holdNew : ac_T := ac_vc k_X5_holdNew 3
set_option maxRecDepth 100000 in
set_option maxHeartbeats 4000000 in
theorem s_X5_holdNew : ∀ x ∈ k_X5_holdNew, ac_So M_X5_holdNew (fun _ _ _ => False) x.1 x.2 :=
  ac_cons (so_aload_n dX5_holdNew_0 rfl rfl) <|
  ac_cons (so_get (ci := 8) (f := 0) rfl in_X5 (by decide) dX5_holdNew_1 wd_56 rfl) <|
  ac_cons (so_iload_n dX5_holdNew_4 rfl rfl) <|
  ac_cons (so_aload_n dX5_holdNew_5 rfl rfl) <|
  ac_cons (so_aast3 dX5_holdNew_6 rfl) <|
  ac_cons (so_aload_n dX5_holdNew_7 rfl rfl) <|
  ac_cons (so_dup dX5_holdNew_8 rfl) <|
  ac_cons (so_get (ci := 8) (f := 1) rfl in_X5 (by decide) dX5_holdNew_9 wd_57 rfl) <|
  ac_cons (so_iconst dX5_holdNew_12 (by decide +kernel) rfl) <|
  ac_cons (so_iadd dX5_holdNew_13 rfl) <|
  ac_cons (so_put (ci := 8) (f := 1) rfl in_X5 tyX5_ok nmX5 (by decide) rfl rfl dX5_holdNew_14 wd_57 rfl) <|
  ac_cons (so_aload_n dX5_holdNew_17 rfl rfl) <|
  ac_cons (so_get (ci := 8) (f := 1) rfl in_X5 (by decide) dX5_holdNew_18 wd_57 rfl) <|
  ac_cons (so_ireturn rfl dX5_holdNew_21) <| ac_nil
theorem C_X5_holdNew : ac_Ct yX5_holdNew M_X5_holdNew T_X5_holdNew := ac_meth (by decide +kernel) rfl rfl rfl rfl s_X5_holdNew
-- X5_make
abbrev rm_X5_make : Room := { frames := 8, cells := 9, slots := 291, locals := 10261 }
abbrev M_X5_make : ac_D := (RX5, "make", cX5_make, 4, some FieldType.int, [], rm_X5_make)
theorem tb_X5_make : ac_tb RX5 [] := fun q h => (by cases h)
theorem dy_X5_make : yX5_make.cls ≠ "java/lang/invoke/MethodHandle" ∧ yX5_make.cls ≠ "java/lang/invoke/VarHandle" ∧ (parseMethodDescriptor yX5_make.desc).map (fun d => d.parameters.length) = some 3 := by decide +kernel
def k_X5_make : List (Nat × ac_op) := [(0, op_iload 1 1),
  (1, op_callS rm_X5_make [] T_X5_requireRegister rm_X5_requireRegister 1 1 4),
  (4, op_iload 2 5),
  (5, op_if (fun x => x < 0) 18 8),
  (8, op_iload 2 9),
  (9, op_push (.int 8) 11),
  (11, op_icmp (fun x y => y < x) 18 14),
  (14, op_push (.int 1) 15),
  (15, op_goto 19),
  (18, op_push (.int 0) 19),
  (19, op_callS rm_X5_make [] T_X5_requireArgument rm_X5_requireArgument 1 19 22),
  (22, op_iload 3 23),
  (23, op_push (.int 24) 25),
  (25, op_icmp (fun x y => y < x) 32 28),
  (28, op_push (.int 1) 29),
  (29, op_goto 33),
  (32, op_push (.int 0) 33),
  (33, op_callS rm_X5_make [] T_X5_requireArgument rm_X5_requireArgument 1 33 36),
  (36, op_iload 3 37),
  (37, op_callS rm_X5_make [] T_X5_requireSize rm_X5_requireSize 1 37 40),
  (40, op_aload 0 41),
  (41, op_iload 1 42),
  (42, op_new rm_X5_make 6 45),
  (45, op_dup 46),
  (46, op_iload 2 47),
  (47, op_iload 3 48),
  (48, op_callI rm_X5_make [] T_X3_init rm_X3_init 2 48 51),
  (51, op_callV rm_X5_make [] 8 T_X5_holdNew rm_X5_holdNew 2 51 54),
  (54, op_ireturn rm_X5_make)]
def T_X5_make : ac_T := ac_vc k_X5_make 4
set_option maxRecDepth 100000 in
set_option maxHeartbeats 4000000 in
theorem s_X5_make : ∀ x ∈ k_X5_make, ac_So M_X5_make (fun _ _ _ => False) x.1 x.2 :=
  ac_cons (so_iload_n dX5_make_0 rfl rfl) <|
  ac_cons (so_callS (N := M_X5_requireRegister) C_X5_requireRegister rfl ⟨wd_158, wd_24, dy_X5_requireRegister, ⟨by decide, by decide⟩, tb_X5_make⟩ dX5_make_1 wd_156 wd_157 rfl) <|
  ac_cons (so_iload_n dX5_make_4 rfl rfl) <|
  ac_cons (so_if_lt dX5_make_5 (by decide) rfl) <|
  ac_cons (so_iload_n dX5_make_8 rfl rfl) <|
  ac_cons (so_bipush dX5_make_9 (by decide +kernel) rfl) <|
  ac_cons (so_icmp_gt dX5_make_11 (by decide) rfl) <|
  ac_cons (so_iconst dX5_make_14 (by decide +kernel) rfl) <|
  ac_cons (so_goto dX5_make_15 (by decide)) <|
  ac_cons (so_iconst dX5_make_18 (by decide +kernel) rfl) <|
  ac_cons (so_callS (N := M_X5_requireArgument) C_X5_requireArgument rfl ⟨wd_161, wd_24, dy_X5_requireArgument, ⟨by decide, by decide⟩, tb_X5_make⟩ dX5_make_19 wd_159 wd_160 rfl) <|
  ac_cons (so_iload_n dX5_make_22 rfl rfl) <|
  ac_cons (so_bipush dX5_make_23 (by decide +kernel) rfl) <|
  ac_cons (so_icmp_gt dX5_make_25 (by decide) rfl) <|
  ac_cons (so_iconst dX5_make_28 (by decide +kernel) rfl) <|
  ac_cons (so_goto dX5_make_29 (by decide)) <|
  ac_cons (so_iconst dX5_make_32 (by decide +kernel) rfl) <|
  ac_cons (so_callS (N := M_X5_requireArgument) C_X5_requireArgument rfl ⟨wd_161, wd_24, dy_X5_requireArgument, ⟨by decide, by decide⟩, tb_X5_make⟩ dX5_make_33 wd_159 wd_160 rfl) <|
  ac_cons (so_iload_n dX5_make_36 rfl rfl) <|
  ac_cons (so_callS (N := M_X5_requireSize) C_X5_requireSize rfl ⟨wd_185, wd_24, dy_X5_requireSize, ⟨by decide, by decide⟩, tb_X5_make⟩ dX5_make_37 wd_183 wd_184 rfl) <|
  ac_cons (so_aload_n dX5_make_40 rfl rfl) <|
  ac_cons (so_iload_n dX5_make_41 rfl rfl) <|
  ac_cons (so_new (ci := 6) (ty := tyX3) rfl in_X3 tyX3_ok df_X3 rfl dX5_make_42 wd_186 wd_187 wd_33 rfl) <|
  ac_cons (so_dup dX5_make_45 rfl) <|
  ac_cons (so_iload_n dX5_make_46 rfl rfl) <|
  ac_cons (so_iload_n dX5_make_47 rfl rfl) <|
  ac_cons (so_callI (N := M_X3_init) C_X3_init rfl rfl ⟨wd_190, wd_33, dy_X3_init, ⟨by decide, by decide⟩, tb_X5_make⟩ dX5_make_48 wd_188 wd_189 rfl rfl) <|
  ac_cons (so_callV (N := M_X5_holdNew) (ci := 8) C_X5_holdNew rfl ⟨wd_215, wd_24, dy_X5_holdNew, ⟨by decide, by decide⟩, tb_X5_make⟩ rfl dX5_make_51 wd_212 wd_214 wd_2 rfl) <|
  ac_cons (so_ireturn rfl dX5_make_54) <| ac_nil
theorem C_X5_make : ac_Ct yX5_make M_X5_make T_X5_make := ac_meth (by decide +kernel) rfl rfl rfl rfl s_X5_make
-- X5_grid
abbrev rm_X5_grid : Room := { frames := 8, cells := 17, slots := 493, locals := 10261 }
abbrev M_X5_grid : ac_D := (RX5, "grid", cX5_grid, 4, some FieldType.int, [], rm_X5_grid)
theorem tb_X5_grid : ac_tb RX5 [] := fun q h => (by cases h)
theorem dy_X5_grid : yX5_grid.cls ≠ "java/lang/invoke/MethodHandle" ∧ yX5_grid.cls ≠ "java/lang/invoke/VarHandle" ∧ (parseMethodDescriptor yX5_grid.desc).map (fun d => d.parameters.length) = some 3 := by decide +kernel
def k_X5_grid : List (Nat × ac_op) := [(0, op_iload 1 1),
  (1, op_callS rm_X5_grid [] T_X5_requireRegister rm_X5_requireRegister 1 1 4),
  (4, op_iload 2 5),
  (5, op_push (.int 6) 7),
  (7, op_icmp (fun x y => y < x) 14 10),
  (10, op_push (.int 1) 11),
  (11, op_goto 15),
  (14, op_push (.int 0) 15),
  (15, op_callS rm_X5_grid [] T_X5_requireArgument rm_X5_requireArgument 1 15 18),
  (18, op_iload 3 19),
  (19, op_push (.int 4) 20),
  (20, op_icmp (fun x y => y < x) 27 23),
  (23, op_push (.int 1) 24),
  (24, op_goto 28),
  (27, op_push (.int 0) 28),
  (28, op_callS rm_X5_grid [] T_X5_requireArgument rm_X5_requireArgument 1 28 31),
  (31, op_iload 2 32),
  (32, op_callS rm_X5_grid [] T_X5_requireSize rm_X5_requireSize 1 32 35),
  (35, op_iload 3 36),
  (36, op_callS rm_X5_grid [] T_X5_requireSize rm_X5_requireSize 1 36 39),
  (39, op_aload 0 40),
  (40, op_iload 1 41),
  (41, op_new rm_X5_grid 4 44),
  (44, op_dup 45),
  (45, op_iload 2 46),
  (46, op_iload 3 47),
  (47, op_callI rm_X5_grid [] T_X0_init rm_X0_init 2 47 50),
  (50, op_callV rm_X5_grid [] 8 T_X5_holdNew rm_X5_holdNew 2 50 53),
  (53, op_ireturn rm_X5_grid)]
def T_X5_grid : ac_T := ac_vc k_X5_grid 4
set_option maxRecDepth 100000 in
set_option maxHeartbeats 4000000 in
theorem s_X5_grid : ∀ x ∈ k_X5_grid, ac_So M_X5_grid (fun _ _ _ => False) x.1 x.2 :=
  ac_cons (so_iload_n dX5_grid_0 rfl rfl) <|
  ac_cons (so_callS (N := M_X5_requireRegister) C_X5_requireRegister rfl ⟨wd_158, wd_24, dy_X5_requireRegister, ⟨by decide, by decide⟩, tb_X5_grid⟩ dX5_grid_1 wd_156 wd_157 rfl) <|
  ac_cons (so_iload_n dX5_grid_4 rfl rfl) <|
  ac_cons (so_bipush dX5_grid_5 (by decide +kernel) rfl) <|
  ac_cons (so_icmp_gt dX5_grid_7 (by decide) rfl) <|
  ac_cons (so_iconst dX5_grid_10 (by decide +kernel) rfl) <|
  ac_cons (so_goto dX5_grid_11 (by decide)) <|
  ac_cons (so_iconst dX5_grid_14 (by decide +kernel) rfl) <|
  ac_cons (so_callS (N := M_X5_requireArgument) C_X5_requireArgument rfl ⟨wd_161, wd_24, dy_X5_requireArgument, ⟨by decide, by decide⟩, tb_X5_grid⟩ dX5_grid_15 wd_159 wd_160 rfl) <|
  ac_cons (so_iload_n dX5_grid_18 rfl rfl) <|
  ac_cons (so_iconst dX5_grid_19 (by decide +kernel) rfl) <|
  ac_cons (so_icmp_gt dX5_grid_20 (by decide) rfl) <|
  ac_cons (so_iconst dX5_grid_23 (by decide +kernel) rfl) <|
  ac_cons (so_goto dX5_grid_24 (by decide)) <|
  ac_cons (so_iconst dX5_grid_27 (by decide +kernel) rfl) <|
  ac_cons (so_callS (N := M_X5_requireArgument) C_X5_requireArgument rfl ⟨wd_161, wd_24, dy_X5_requireArgument, ⟨by decide, by decide⟩, tb_X5_grid⟩ dX5_grid_28 wd_159 wd_160 rfl) <|
  ac_cons (so_iload_n dX5_grid_31 rfl rfl) <|
  ac_cons (so_callS (N := M_X5_requireSize) C_X5_requireSize rfl ⟨wd_185, wd_24, dy_X5_requireSize, ⟨by decide, by decide⟩, tb_X5_grid⟩ dX5_grid_32 wd_183 wd_184 rfl) <|
  ac_cons (so_iload_n dX5_grid_35 rfl rfl) <|
  ac_cons (so_callS (N := M_X5_requireSize) C_X5_requireSize rfl ⟨wd_185, wd_24, dy_X5_requireSize, ⟨by decide, by decide⟩, tb_X5_grid⟩ dX5_grid_36 wd_183 wd_184 rfl) <|
  ac_cons (so_aload_n dX5_grid_39 rfl rfl) <|
  ac_cons (so_iload_n dX5_grid_40 rfl rfl) <|
  ac_cons (so_new (ci := 4) (ty := tyX0) rfl in_X0 tyX0_ok df_X0 rfl dX5_grid_41 wd_223 wd_224 wd_34 rfl) <|
  ac_cons (so_dup dX5_grid_44 rfl) <|
  ac_cons (so_iload_n dX5_grid_45 rfl rfl) <|
  ac_cons (so_iload_n dX5_grid_46 rfl rfl) <|
  ac_cons (so_callI (N := M_X0_init) C_X0_init rfl rfl ⟨wd_227, wd_34, dy_X0_init, ⟨by decide, by decide⟩, tb_X5_grid⟩ dX5_grid_47 wd_225 wd_226 rfl rfl) <|
  ac_cons (so_callV (N := M_X5_holdNew) (ci := 8) C_X5_holdNew rfl ⟨wd_215, wd_24, dy_X5_holdNew, ⟨by decide, by decide⟩, tb_X5_grid⟩ rfl dX5_grid_50 wd_212 wd_214 wd_2 rfl) <|
  ac_cons (so_ireturn rfl dX5_grid_53) <| ac_nil
theorem C_X5_grid : ac_Ct yX5_grid M_X5_grid T_X5_grid := ac_meth (by decide +kernel) rfl rfl rfl rfl s_X5_grid
-- X5_record
abbrev rm_X5_record : Room := { frames := 8, cells := 2, slots := 8, locals := 121 }
abbrev M_X5_record : ac_D := (RX5, "record", cX5_record, 2, some FieldType.int, [], rm_X5_record)
theorem tb_X5_record : ac_tb RX5 [] := fun q h => (by cases h)
theorem dy_X5_record : yX5_record.cls ≠ "java/lang/invoke/MethodHandle" ∧ yX5_record.cls ≠ "java/lang/invoke/VarHandle" ∧ (parseMethodDescriptor yX5_record.desc).map (fun d => d.parameters.length) = some 1 := by decide +kernel
def k_X5_record : List (Nat × ac_op) := [(0, op_iload 1 1),
  (1, op_callS rm_X5_record [] T_X5_requireRegister rm_X5_requireRegister 1 1 4),
  (4, op_aload 0 5),
  (5, op_iload 1 6),
  (6, op_new rm_X5_record 5 9),
  (9, op_dup 10),
  (10, op_callI rm_X5_record [] T_X2_init rm_X2_init 0 10 13),
  (13, op_callV rm_X5_record [] 8 T_X5_holdNew rm_X5_holdNew 2 13 16),
  (16, op_ireturn rm_X5_record)]
def T_X5_record : ac_T := ac_vc k_X5_record 2
set_option maxRecDepth 100000 in
set_option maxHeartbeats 4000000 in
theorem s_X5_record : ∀ x ∈ k_X5_record, ac_So M_X5_record (fun _ _ _ => False) x.1 x.2 :=
  ac_cons (so_iload_n dX5_record_0 rfl rfl) <|
  ac_cons (so_callS (N := M_X5_requireRegister) C_X5_requireRegister rfl ⟨wd_158, wd_24, dy_X5_requireRegister, ⟨by decide, by decide⟩, tb_X5_record⟩ dX5_record_1 wd_156 wd_157 rfl) <|
  ac_cons (so_aload_n dX5_record_4 rfl rfl) <|
  ac_cons (so_iload_n dX5_record_5 rfl rfl) <|
  ac_cons (so_new (ci := 5) (ty := tyX2) rfl in_X2 tyX2_ok df_X2 rfl dX5_record_6 wd_243 wd_244 wd_35 rfl) <|
  ac_cons (so_dup dX5_record_9 rfl) <|
  ac_cons (so_callIN (N := M_X2_init) C_X2_init rfl rfl ⟨wd_247, wd_35, dy_X2_init, ⟨by decide, by decide⟩, tb_X5_record⟩ dX5_record_10 wd_245 wd_246 rfl rfl) <|
  ac_cons (so_callV (N := M_X5_holdNew) (ci := 8) C_X5_holdNew rfl ⟨wd_215, wd_24, dy_X5_holdNew, ⟨by decide, by decide⟩, tb_X5_record⟩ rfl dX5_record_13 wd_212 wd_214 wd_2 rfl) <|
  ac_cons (so_ireturn rfl dX5_record_16) <| ac_nil
theorem C_X5_record : ac_Ct yX5_record M_X5_record T_X5_record := ac_meth (by decide +kernel) rfl rfl rfl rfl s_X5_record
-- X5_requirePresent
abbrev rm_X5_requirePresent : Room := { frames := 8, cells := 1, slots := 8, locals := 10240 }
abbrev M_X5_requirePresent : ac_D := (RX5, "requirePresent", cX5_requirePresent, 3, none, [], rm_X5_requirePresent)
theorem tb_X5_requirePresent : ac_tb RX5 [] := fun q h => (by cases h)
theorem dy_X5_requirePresent : yX5_requirePresent.cls ≠ "java/lang/invoke/MethodHandle" ∧ yX5_requirePresent.cls ≠ "java/lang/invoke/VarHandle" ∧ (parseMethodDescriptor yX5_requirePresent.desc).map (fun d => d.parameters.length) = some 1 := by decide +kernel
def k_X5_requirePresent : List (Nat × ac_op) := [(0, op_iload 0 1),
  (1, op_if (fun x => ¬ x = 0) 9 4),
  (4, op_push .null 5),
  (5, op_astore 1 6),
  (6, op_aload 1 7),
  (7, op_npe rm_X5_requirePresent),
  (8, op_istore 2 9),
  (9, op_return rm_X5_requirePresent)]
def T_X5_requirePresent : ac_T := ac_vc k_X5_requirePresent 3
set_option maxRecDepth 100000 in
set_option maxHeartbeats 4000000 in
theorem s_X5_requirePresent : ∀ x ∈ k_X5_requirePresent, ac_So M_X5_requirePresent (fun _ _ _ => False) x.1 x.2 :=
  ac_cons (so_iload_n dX5_requirePresent_0 rfl rfl) <|
  ac_cons (so_if_ne dX5_requirePresent_1 (by decide) rfl) <|
  ac_cons (so_null dX5_requirePresent_4 rfl) <|
  ac_cons (so_astore_n dX5_requirePresent_5 rfl rfl) <|
  ac_cons (so_aload_n dX5_requirePresent_6 rfl rfl) <|
  ac_cons (so_npe rfl at_N dX5_requirePresent_7 ⟨by decide, by decide⟩) <|
  ac_cons (so_istore_n dX5_requirePresent_8 rfl rfl) <|
  ac_cons (so_return rfl dX5_requirePresent_9) <| ac_nil
theorem C_X5_requirePresent : ac_Ct yX5_requirePresent M_X5_requirePresent T_X5_requirePresent := ac_meth (by decide +kernel) rfl rfl rfl rfl s_X5_requirePresent
-- X5_itemIn
abbrev rm_X5_itemIn : Room := { frames := 9, cells := 1, slots := 8, locals := 10262 }
abbrev M_X5_itemIn : ac_D := (RX5, "itemIn", cX5_itemIn, 3, some (FieldType.object "TypedHall$Item"), [], rm_X5_itemIn)
theorem tb_X5_itemIn : ac_tb RX5 [] := fun q h => (by cases h)
theorem dy_X5_itemIn : yX5_itemIn.cls ≠ "java/lang/invoke/MethodHandle" ∧ yX5_itemIn.cls ≠ "java/lang/invoke/VarHandle" ∧ (parseMethodDescriptor yX5_itemIn.desc).map (fun d => d.parameters.length) = some 1 := by decide +kernel
def k_X5_itemIn : List (Nat × ac_op) := [(0, op_aload 0 1),
  (1, op_get 8 0 4),
  (4, op_iload 1 5),
  (5, op_aald 3 6),
  (6, op_astore 2 7),
  (7, op_aload 2 8),
  (8, op_ifnull 15 11),
  (11, op_push (.int 1) 12),
  (12, op_goto 16),
  (15, op_push (.int 0) 16),
  (16, op_callS rm_X5_itemIn [] T_X5_requirePresent rm_X5_requirePresent 1 16 19),
  (19, op_aload 2 20),
  (20, op_areturn rm_X5_itemIn)]
def T_X5_itemIn : ac_T := ac_vc k_X5_itemIn 3
set_option maxRecDepth 100000 in
set_option maxHeartbeats 4000000 in
theorem s_X5_itemIn : ∀ x ∈ k_X5_itemIn, ac_So M_X5_itemIn (fun _ _ _ => False) x.1 x.2 :=
  ac_cons (so_aload_n dX5_itemIn_0 rfl rfl) <|
  ac_cons (so_get (ci := 8) (f := 0) rfl in_X5 (by decide) dX5_itemIn_1 wd_56 rfl) <|
  ac_cons (so_iload_n dX5_itemIn_4 rfl rfl) <|
  ac_cons (so_aald3 dX5_itemIn_5 rfl) <|
  ac_cons (so_astore_n dX5_itemIn_6 rfl rfl) <|
  ac_cons (so_aload_n dX5_itemIn_7 rfl rfl) <|
  ac_cons (so_ifnull dX5_itemIn_8 (by decide) rfl) <|
  ac_cons (so_iconst dX5_itemIn_11 (by decide +kernel) rfl) <|
  ac_cons (so_goto dX5_itemIn_12 (by decide)) <|
  ac_cons (so_iconst dX5_itemIn_15 (by decide +kernel) rfl) <|
  ac_cons (so_callS (N := M_X5_requirePresent) C_X5_requirePresent rfl ⟨wd_293, wd_24, dy_X5_requirePresent, ⟨by decide, by decide⟩, tb_X5_itemIn⟩ dX5_itemIn_16 wd_291 wd_292 rfl) <|
  ac_cons (so_aload_n dX5_itemIn_19 rfl rfl) <|
  ac_cons (so_areturn rfl (by first | exact Or.inl ⟨_, rfl⟩ | exact Or.inr ⟨_, rfl⟩) dX5_itemIn_20) <| ac_nil
theorem C_X5_itemIn : ac_Ct yX5_itemIn M_X5_itemIn T_X5_itemIn := ac_meth (by decide +kernel) rfl rfl rfl rfl s_X5_itemIn
-- X5_requireSupported
abbrev rm_X5_requireSupported : Room := { frames := 6, cells := 1, slots := 6, locals := 81 }
abbrev M_X5_requireSupported : ac_D := (RX5, "requireSupported", cX5_requireSupported, 1, none, [], rm_X5_requireSupported)
theorem tb_X5_requireSupported : ac_tb RX5 [] := fun q h => (by cases h)
theorem dy_X5_requireSupported : yX5_requireSupported.cls ≠ "java/lang/invoke/MethodHandle" ∧ yX5_requireSupported.cls ≠ "java/lang/invoke/VarHandle" ∧ (parseMethodDescriptor yX5_requireSupported.desc).map (fun d => d.parameters.length) = some 1 := by decide +kernel
def k_X5_requireSupported : List (Nat × ac_op) := [(0, op_iload 0 1),
  (1, op_if (fun x => ¬ x = 0) 12 4),
  (4, op_throw rm_X5_requireSupported 2),
  (12, op_return rm_X5_requireSupported)]
def T_X5_requireSupported : ac_T := ac_vc k_X5_requireSupported 1
set_option maxRecDepth 100000 in
set_option maxHeartbeats 4000000 in
theorem s_X5_requireSupported : ∀ x ∈ k_X5_requireSupported, ac_So M_X5_requireSupported (fun _ _ _ => False) x.1 x.2 :=
  ac_cons (so_iload_n dX5_requireSupported_0 rfl rfl) <|
  ac_cons (so_if_ne dX5_requireSupported_1 (by decide) rfl) <|
  ac_cons (so_throw (x := 2) (names := ["java/lang/RuntimeException", "java/lang/Exception"]) rfl (by decide +kernel) (by decide +kernel) (by decide +kernel) dX5_requireSupported_4 dX5_requireSupported_7 dX5_requireSupported_8 dX5_requireSupported_11 ⟨by decide, by decide⟩) <|
  ac_cons (so_return rfl dX5_requireSupported_12) <| ac_nil
theorem C_X5_requireSupported : ac_Ct yX5_requireSupported M_X5_requireSupported T_X5_requireSupported := ac_meth (by decide +kernel) rfl rfl rfl rfl s_X5_requireSupported
-- X5_window
abbrev rm_X5_window : Room := { frames := 10, cells := 6, slots := 35, locals := 10284 }
abbrev M_X5_window : ac_D := (RX5, "window", cX5_window, 6, some FieldType.int, [], rm_X5_window)
theorem tb_X5_window : ac_tb RX5 [] := fun q h => (by cases h)
theorem dy_X5_window : yX5_window.cls ≠ "java/lang/invoke/MethodHandle" ∧ yX5_window.cls ≠ "java/lang/invoke/VarHandle" ∧ (parseMethodDescriptor yX5_window.desc).map (fun d => d.parameters.length) = some 3 := by decide +kernel
def k_X5_window : List (Nat × ac_op) := [(0, op_iload 1 1),
  (1, op_callS rm_X5_window [] T_X5_requireRegister rm_X5_requireRegister 1 1 4),
  (4, op_iload 2 5),
  (5, op_callS rm_X5_window [] T_X5_requireRegister rm_X5_requireRegister 1 5 8),
  (8, op_aload 0 9),
  (9, op_iload 2 10),
  (10, op_callV rm_X5_window [] 8 T_X5_itemIn rm_X5_itemIn 1 10 13),
  (13, op_astore 4 15),
  (15, op_aload 4 17),
  (17, op_callU rm_X5_window [] [(4, T_X1_ground, rm_X1_ground), (5, T_X1_ground, rm_X1_ground), (6, T_X3_ground, rm_X3_ground), (7, T_X4_ground, rm_X4_ground)] 0 17 20),
  (20, op_ifnull 27 23),
  (23, op_push (.int 1) 24),
  (24, op_goto 28),
  (27, op_push (.int 0) 28),
  (28, op_callS rm_X5_window [] T_X5_requireSupported rm_X5_requireSupported 1 28 31),
  (31, op_aload 4 33),
  (33, op_callU rm_X5_window [] [(4, T_X1_windows, rm_X1_windows), (5, T_X1_windows, rm_X1_windows), (6, T_X1_windows, rm_X1_windows), (7, T_X4_windows, rm_X4_windows)] 0 33 36),
  (36, op_push (.int 5) 37),
  (37, op_icmp (fun x y => x ≤ y) 48 40),
  (40, op_throw rm_X5_window 5),
  (48, op_aload 4 50),
  (50, op_callU rm_X5_window [] [(4, T_X1_shift, rm_X1_shift), (5, T_X1_shift, rm_X1_shift), (6, T_X1_shift, rm_X1_shift), (7, T_X4_shift, rm_X4_shift)] 0 50 53),
  (53, op_iload 3 54),
  (54, op_ii (fun x y => x + y) 55),
  (55, op_istore 5 57),
  (57, op_aload 0 58),
  (58, op_iload 1 59),
  (59, op_new rm_X5_window 7 62),
  (62, op_dup 63),
  (63, op_aload 4 65),
  (65, op_callU rm_X5_window [] [(4, T_X1_ground, rm_X1_ground), (5, T_X1_ground, rm_X1_ground), (6, T_X3_ground, rm_X3_ground), (7, T_X4_ground, rm_X4_ground)] 0 65 68),
  (68, op_iload 5 70),
  (70, op_aload 4 72),
  (72, op_callU rm_X5_window [] [(4, T_X1_windows, rm_X1_windows), (5, T_X1_windows, rm_X1_windows), (6, T_X1_windows, rm_X1_windows), (7, T_X4_windows, rm_X4_windows)] 0 72 75),
  (75, op_push (.int 1) 76),
  (76, op_ii (fun x y => x + y) 77),
  (77, op_callI rm_X5_window [] T_X4_init rm_X4_init 3 77 80),
  (80, op_callV rm_X5_window [] 8 T_X5_holdNew rm_X5_holdNew 2 80 83),
  (83, op_ireturn rm_X5_window)]
def T_X5_window : ac_T := ac_vc k_X5_window 6
set_option maxRecDepth 100000 in
set_option maxHeartbeats 4000000 in
theorem s_X5_window : ∀ x ∈ k_X5_window, ac_So M_X5_window (fun _ _ _ => False) x.1 x.2 :=
  ac_cons (so_iload_n dX5_window_0 rfl rfl) <|
  ac_cons (so_callS (N := M_X5_requireRegister) C_X5_requireRegister rfl ⟨wd_158, wd_24, dy_X5_requireRegister, ⟨by decide, by decide⟩, tb_X5_window⟩ dX5_window_1 wd_156 wd_157 rfl) <|
  ac_cons (so_iload_n dX5_window_4 rfl rfl) <|
  ac_cons (so_callS (N := M_X5_requireRegister) C_X5_requireRegister rfl ⟨wd_158, wd_24, dy_X5_requireRegister, ⟨by decide, by decide⟩, tb_X5_window⟩ dX5_window_5 wd_156 wd_157 rfl) <|
  ac_cons (so_aload_n dX5_window_8 rfl rfl) <|
  ac_cons (so_iload_n dX5_window_9 rfl rfl) <|
  ac_cons (so_callV (N := M_X5_itemIn) (ci := 8) C_X5_itemIn rfl ⟨wd_290, wd_24, dy_X5_itemIn, ⟨by decide, by decide⟩, tb_X5_window⟩ rfl dX5_window_10 wd_287 wd_289 wd_3 rfl) <|
  ac_cons (so_astore dX5_window_13 rfl) <|
  ac_cons (so_aload dX5_window_15 rfl) <|
  ac_cons (so_callU (M := M_X5_window) (x := ⟨"TypedHall$Item", "ground", "()LTypedHall$VectorItem;"⟩) (ac_cons4 (⟨yX1_ground, M_X1_ground, _, C_X1_ground, rfl, rfl, ⟨wd_305, wd_32, dy_X1_ground, ⟨by decide, by decide⟩, tb_X5_window⟩, rfl, wd_295, wd_297⟩) (⟨yX1_ground, M_X1_ground, _, C_X1_ground, rfl, rfl, ⟨wd_305, wd_32, dy_X1_ground, ⟨by decide, by decide⟩, tb_X5_window⟩, rfl, wd_295, wd_298⟩) (⟨yX3_ground, M_X3_ground, _, C_X3_ground, rfl, rfl, ⟨wd_301, wd_33, dy_X3_ground, ⟨by decide, by decide⟩, tb_X5_window⟩, rfl, wd_300, wd_299⟩) (⟨yX4_ground, M_X4_ground, _, C_X4_ground, rfl, rfl, ⟨wd_304, wd_39, dy_X4_ground, ⟨by decide, by decide⟩, tb_X5_window⟩, rfl, wd_303, wd_302⟩)) (Or.inl ⟨wd_295, _, _, _, wd_305⟩) wd_296 ⟨by decide, by decide, by decide +kernel⟩ dX5_window_17 wd_294 rfl) <|
  ac_cons (so_ifnull dX5_window_20 (by decide) rfl) <|
  ac_cons (so_iconst dX5_window_23 (by decide +kernel) rfl) <|
  ac_cons (so_goto dX5_window_24 (by decide)) <|
  ac_cons (so_iconst dX5_window_27 (by decide +kernel) rfl) <|
  ac_cons (so_callS (N := M_X5_requireSupported) C_X5_requireSupported rfl ⟨wd_308, wd_24, dy_X5_requireSupported, ⟨by decide, by decide⟩, tb_X5_window⟩ dX5_window_28 wd_306 wd_307 rfl) <|
  ac_cons (so_aload dX5_window_31 rfl) <|
  ac_cons (so_callU (M := M_X5_window) (x := ⟨"TypedHall$Item", "windows", "()I"⟩) (ac_cons4 (⟨yX1_windows, M_X1_windows, _, C_X1_windows, rfl, rfl, ⟨wd_333, wd_32, dy_X1_windows, ⟨by decide, by decide⟩, tb_X5_window⟩, rfl, wd_325, wd_327⟩) (⟨yX1_windows, M_X1_windows, _, C_X1_windows, rfl, rfl, ⟨wd_333, wd_32, dy_X1_windows, ⟨by decide, by decide⟩, tb_X5_window⟩, rfl, wd_325, wd_328⟩) (⟨yX1_windows, M_X1_windows, _, C_X1_windows, rfl, rfl, ⟨wd_333, wd_32, dy_X1_windows, ⟨by decide, by decide⟩, tb_X5_window⟩, rfl, wd_325, wd_329⟩) (⟨yX4_windows, M_X4_windows, _, C_X4_windows, rfl, rfl, ⟨wd_332, wd_39, dy_X4_windows, ⟨by decide, by decide⟩, tb_X5_window⟩, rfl, wd_331, wd_330⟩)) (Or.inl ⟨wd_325, _, _, _, wd_333⟩) wd_326 ⟨by decide, by decide, by decide +kernel⟩ dX5_window_33 wd_324 rfl) <|
  ac_cons (so_iconst dX5_window_36 (by decide +kernel) rfl) <|
  ac_cons (so_icmp_le dX5_window_37 (by decide) rfl) <|
  ac_cons (so_throw (x := 5) (names := ["java/lang/RuntimeException", "java/lang/Exception"]) rfl (by decide +kernel) (by decide +kernel) (by decide +kernel) dX5_window_40 dX5_window_43 dX5_window_44 dX5_window_47 ⟨by decide, by decide⟩) <|
  ac_cons (so_aload dX5_window_48 rfl) <|
  ac_cons (so_callU (M := M_X5_window) (x := ⟨"TypedHall$Item", "shift", "()I"⟩) (ac_cons4 (⟨yX1_shift, M_X1_shift, _, C_X1_shift, rfl, rfl, ⟨wd_358, wd_32, dy_X1_shift, ⟨by decide, by decide⟩, tb_X5_window⟩, rfl, wd_350, wd_352⟩) (⟨yX1_shift, M_X1_shift, _, C_X1_shift, rfl, rfl, ⟨wd_358, wd_32, dy_X1_shift, ⟨by decide, by decide⟩, tb_X5_window⟩, rfl, wd_350, wd_353⟩) (⟨yX1_shift, M_X1_shift, _, C_X1_shift, rfl, rfl, ⟨wd_358, wd_32, dy_X1_shift, ⟨by decide, by decide⟩, tb_X5_window⟩, rfl, wd_350, wd_354⟩) (⟨yX4_shift, M_X4_shift, _, C_X4_shift, rfl, rfl, ⟨wd_357, wd_39, dy_X4_shift, ⟨by decide, by decide⟩, tb_X5_window⟩, rfl, wd_356, wd_355⟩)) (Or.inl ⟨wd_350, _, _, _, wd_358⟩) wd_351 ⟨by decide, by decide, by decide +kernel⟩ dX5_window_50 wd_349 rfl) <|
  ac_cons (so_iload_n dX5_window_53 rfl rfl) <|
  ac_cons (so_iadd dX5_window_54 rfl) <|
  ac_cons (so_istore dX5_window_55 rfl) <|
  ac_cons (so_aload_n dX5_window_57 rfl rfl) <|
  ac_cons (so_iload_n dX5_window_58 rfl rfl) <|
  ac_cons (so_new (ci := 7) (ty := tyX4) rfl in_X4 tyX4_ok df_X4 rfl dX5_window_59 wd_359 wd_360 wd_39 rfl) <|
  ac_cons (so_dup dX5_window_62 rfl) <|
  ac_cons (so_aload dX5_window_63 rfl) <|
  ac_cons (so_callU (M := M_X5_window) (x := ⟨"TypedHall$Item", "ground", "()LTypedHall$VectorItem;"⟩) (ac_cons4 (⟨yX1_ground, M_X1_ground, _, C_X1_ground, rfl, rfl, ⟨wd_305, wd_32, dy_X1_ground, ⟨by decide, by decide⟩, tb_X5_window⟩, rfl, wd_295, wd_297⟩) (⟨yX1_ground, M_X1_ground, _, C_X1_ground, rfl, rfl, ⟨wd_305, wd_32, dy_X1_ground, ⟨by decide, by decide⟩, tb_X5_window⟩, rfl, wd_295, wd_298⟩) (⟨yX3_ground, M_X3_ground, _, C_X3_ground, rfl, rfl, ⟨wd_301, wd_33, dy_X3_ground, ⟨by decide, by decide⟩, tb_X5_window⟩, rfl, wd_300, wd_299⟩) (⟨yX4_ground, M_X4_ground, _, C_X4_ground, rfl, rfl, ⟨wd_304, wd_39, dy_X4_ground, ⟨by decide, by decide⟩, tb_X5_window⟩, rfl, wd_303, wd_302⟩)) (Or.inl ⟨wd_295, _, _, _, wd_305⟩) wd_296 ⟨by decide, by decide, by decide +kernel⟩ dX5_window_65 wd_294 rfl) <|
  ac_cons (so_iload dX5_window_68 rfl) <|
  ac_cons (so_aload dX5_window_70 rfl) <|
  ac_cons (so_callU (M := M_X5_window) (x := ⟨"TypedHall$Item", "windows", "()I"⟩) (ac_cons4 (⟨yX1_windows, M_X1_windows, _, C_X1_windows, rfl, rfl, ⟨wd_333, wd_32, dy_X1_windows, ⟨by decide, by decide⟩, tb_X5_window⟩, rfl, wd_325, wd_327⟩) (⟨yX1_windows, M_X1_windows, _, C_X1_windows, rfl, rfl, ⟨wd_333, wd_32, dy_X1_windows, ⟨by decide, by decide⟩, tb_X5_window⟩, rfl, wd_325, wd_328⟩) (⟨yX1_windows, M_X1_windows, _, C_X1_windows, rfl, rfl, ⟨wd_333, wd_32, dy_X1_windows, ⟨by decide, by decide⟩, tb_X5_window⟩, rfl, wd_325, wd_329⟩) (⟨yX4_windows, M_X4_windows, _, C_X4_windows, rfl, rfl, ⟨wd_332, wd_39, dy_X4_windows, ⟨by decide, by decide⟩, tb_X5_window⟩, rfl, wd_331, wd_330⟩)) (Or.inl ⟨wd_325, _, _, _, wd_333⟩) wd_326 ⟨by decide, by decide, by decide +kernel⟩ dX5_window_72 wd_324 rfl) <|
  ac_cons (so_iconst dX5_window_75 (by decide +kernel) rfl) <|
  ac_cons (so_iadd dX5_window_76 rfl) <|
  ac_cons (so_callI (N := M_X4_init) C_X4_init rfl rfl ⟨wd_363, wd_39, dy_X4_init, ⟨by decide, by decide⟩, tb_X5_window⟩ dX5_window_77 wd_361 wd_362 rfl rfl) <|
  ac_cons (so_callV (N := M_X5_holdNew) (ci := 8) C_X5_holdNew rfl ⟨wd_215, wd_24, dy_X5_holdNew, ⟨by decide, by decide⟩, tb_X5_window⟩ rfl dX5_window_80 wd_212 wd_214 wd_2 rfl) <|
  ac_cons (so_ireturn rfl dX5_window_83) <| ac_nil
theorem C_X5_window : ac_Ct yX5_window M_X5_window T_X5_window := ac_meth (by decide +kernel) rfl rfl rfl rfl s_X5_window
-- X5_copy
abbrev rm_X5_copy : Room := { frames := 8, cells := 2, slots := 12, locals := 121 }
abbrev M_X5_copy : ac_D := (RX5, "copy", cX5_copy, 5, some FieldType.boolean, [], rm_X5_copy)
theorem tb_X5_copy : ac_tb RX5 [] := fun q h => (by cases h)
theorem dy_X5_copy : yX5_copy.cls ≠ "java/lang/invoke/MethodHandle" ∧ yX5_copy.cls ≠ "java/lang/invoke/VarHandle" ∧ (parseMethodDescriptor yX5_copy.desc).map (fun d => d.parameters.length) = some 2 := by decide +kernel
def k_X5_copy : List (Nat × ac_op) := [(0, op_iload 1 1),
  (1, op_callS rm_X5_copy [] T_X5_requireRegister rm_X5_requireRegister 1 1 4),
  (4, op_iload 2 5),
  (5, op_push (.int (-1)) 6),
  (6, op_icmp (fun x y => x < y) 19 9),
  (9, op_iload 2 10),
  (10, op_push (.int 8) 12),
  (12, op_icmp (fun x y => y ≤ x) 19 15),
  (15, op_push (.int 1) 16),
  (16, op_goto 20),
  (19, op_push (.int 0) 20),
  (20, op_callS rm_X5_copy [] T_X5_requireArgument rm_X5_requireArgument 1 20 23),
  (23, op_iload 2 24),
  (24, op_push (.int (-1)) 25),
  (25, op_icmp (fun x y => ¬ x = y) 32 28),
  (28, op_push .null 29),
  (29, op_goto 38),
  (32, op_aload 0 33),
  (33, op_get 8 0 36),
  (36, op_iload 2 37),
  (37, op_aald 3 38),
  (38, op_astore 3 39),
  (39, op_aload 0 40),
  (40, op_get 8 0 43),
  (43, op_iload 1 44),
  (44, op_aald 3 45),
  (45, op_aload 3 46),
  (46, op_acmpne 53 49),
  (49, op_push (.int 1) 50),
  (50, op_goto 54),
  (53, op_push (.int 0) 54),
  (54, op_istore 4 56),
  (56, op_aload 0 57),
  (57, op_get 8 0 60),
  (60, op_iload 1 61),
  (61, op_aload 3 62),
  (62, op_aast 3 63),
  (63, op_iload 4 65),
  (65, op_zreturn rm_X5_copy)]
def T_X5_copy : ac_T := ac_vc k_X5_copy 5
set_option maxRecDepth 100000 in
set_option maxHeartbeats 4000000 in
theorem s_X5_copy : ∀ x ∈ k_X5_copy, ac_So M_X5_copy (fun _ _ _ => False) x.1 x.2 :=
  ac_cons (so_iload_n dX5_copy_0 rfl rfl) <|
  ac_cons (so_callS (N := M_X5_requireRegister) C_X5_requireRegister rfl ⟨wd_158, wd_24, dy_X5_requireRegister, ⟨by decide, by decide⟩, tb_X5_copy⟩ dX5_copy_1 wd_156 wd_157 rfl) <|
  ac_cons (so_iload_n dX5_copy_4 rfl rfl) <|
  ac_cons (so_iconst dX5_copy_5 (by decide +kernel) rfl) <|
  ac_cons (so_icmp_lt dX5_copy_6 (by decide) rfl) <|
  ac_cons (so_iload_n dX5_copy_9 rfl rfl) <|
  ac_cons (so_bipush dX5_copy_10 (by decide +kernel) rfl) <|
  ac_cons (so_icmp_ge dX5_copy_12 (by decide) rfl) <|
  ac_cons (so_iconst dX5_copy_15 (by decide +kernel) rfl) <|
  ac_cons (so_goto dX5_copy_16 (by decide)) <|
  ac_cons (so_iconst dX5_copy_19 (by decide +kernel) rfl) <|
  ac_cons (so_callS (N := M_X5_requireArgument) C_X5_requireArgument rfl ⟨wd_161, wd_24, dy_X5_requireArgument, ⟨by decide, by decide⟩, tb_X5_copy⟩ dX5_copy_20 wd_159 wd_160 rfl) <|
  ac_cons (so_iload_n dX5_copy_23 rfl rfl) <|
  ac_cons (so_iconst dX5_copy_24 (by decide +kernel) rfl) <|
  ac_cons (so_icmp_ne dX5_copy_25 (by decide) rfl) <|
  ac_cons (so_null dX5_copy_28 rfl) <|
  ac_cons (so_goto dX5_copy_29 (by decide)) <|
  ac_cons (so_aload_n dX5_copy_32 rfl rfl) <|
  ac_cons (so_get (ci := 8) (f := 0) rfl in_X5 (by decide) dX5_copy_33 wd_56 rfl) <|
  ac_cons (so_iload_n dX5_copy_36 rfl rfl) <|
  ac_cons (so_aald3 dX5_copy_37 rfl) <|
  ac_cons (so_astore_n dX5_copy_38 rfl rfl) <|
  ac_cons (so_aload_n dX5_copy_39 rfl rfl) <|
  ac_cons (so_get (ci := 8) (f := 0) rfl in_X5 (by decide) dX5_copy_40 wd_56 rfl) <|
  ac_cons (so_iload_n dX5_copy_43 rfl rfl) <|
  ac_cons (so_aald3 dX5_copy_44 rfl) <|
  ac_cons (so_aload_n dX5_copy_45 rfl rfl) <|
  ac_cons (so_acmpne dX5_copy_46 (by decide) rfl) <|
  ac_cons (so_iconst dX5_copy_49 (by decide +kernel) rfl) <|
  ac_cons (so_goto dX5_copy_50 (by decide)) <|
  ac_cons (so_iconst dX5_copy_53 (by decide +kernel) rfl) <|
  ac_cons (so_istore dX5_copy_54 rfl) <|
  ac_cons (so_aload_n dX5_copy_56 rfl rfl) <|
  ac_cons (so_get (ci := 8) (f := 0) rfl in_X5 (by decide) dX5_copy_57 wd_56 rfl) <|
  ac_cons (so_iload_n dX5_copy_60 rfl rfl) <|
  ac_cons (so_aload_n dX5_copy_61 rfl rfl) <|
  ac_cons (so_aast3 dX5_copy_62 rfl) <|
  ac_cons (so_iload dX5_copy_63 rfl) <|
  ac_cons (so_zreturn rfl dX5_copy_65) <| ac_nil
theorem C_X5_copy : ac_Ct yX5_copy M_X5_copy T_X5_copy := ac_meth (by decide +kernel) rfl rfl rfl rfl s_X5_copy
-- X5_requireIndex
abbrev rm_X5_requireIndex : Room := { frames := 8, cells := 3, slots := 222, locals := 10240 }
abbrev M_X5_requireIndex : ac_D := (RX5, "requireIndex", cX5_requireIndex, 3, none, [], rm_X5_requireIndex)
theorem tb_X5_requireIndex : ac_tb RX5 [] := fun q h => (by cases h)
theorem dy_X5_requireIndex : yX5_requireIndex.cls ≠ "java/lang/invoke/MethodHandle" ∧ yX5_requireIndex.cls ≠ "java/lang/invoke/VarHandle" ∧ (parseMethodDescriptor yX5_requireIndex.desc).map (fun d => d.parameters.length) = some 2 := by decide +kernel
def k_X5_requireIndex : List (Nat × ac_op) := [(0, op_iload 0 1),
  (1, op_if (fun x => x < 0) 9 4),
  (4, op_iload 0 5),
  (5, op_iload 1 6),
  (6, op_icmp (fun x y => x < y) 15 9),
  (9, op_oob rm_X5_requireIndex),
  (15, op_return rm_X5_requireIndex)]
def T_X5_requireIndex : ac_T := ac_vc k_X5_requireIndex 3
set_option maxRecDepth 100000 in
set_option maxHeartbeats 4000000 in
theorem s_X5_requireIndex : ∀ x ∈ k_X5_requireIndex, ac_So M_X5_requireIndex (fun _ _ _ => False) x.1 x.2 :=
  ac_cons (so_iload_n dX5_requireIndex_0 rfl rfl) <|
  ac_cons (so_if_lt dX5_requireIndex_1 (by decide) rfl) <|
  ac_cons (so_iload_n dX5_requireIndex_4 rfl rfl) <|
  ac_cons (so_iload_n dX5_requireIndex_5 rfl rfl) <|
  ac_cons (so_icmp_lt dX5_requireIndex_6 (by decide) rfl) <|
  ac_cons (so_oob rfl at_M3 wd_414 dX5_requireIndex_9 dX5_requireIndex_12 dX5_requireIndex_13 ⟨by decide, by decide⟩) <|
  ac_cons (so_return rfl dX5_requireIndex_15) <| ac_nil
theorem C_X5_requireIndex : ac_Ct yX5_requireIndex M_X5_requireIndex T_X5_requireIndex := ac_meth (by decide +kernel) rfl rfl rfl rfl s_X5_requireIndex
-- X5_loseRow
abbrev rm_X5_loseRow : Room := { frames := 9, cells := 4, slots := 230, locals := 10262 }
abbrev M_X5_loseRow : ac_D := (RX5, "loseRow", cX5_loseRow, 3, some FieldType.int, [], rm_X5_loseRow)
theorem tb_X5_loseRow : ac_tb RX5 [] := fun q h => (by cases h)
theorem dy_X5_loseRow : yX5_loseRow.cls ≠ "java/lang/invoke/MethodHandle" ∧ yX5_loseRow.cls ≠ "java/lang/invoke/VarHandle" ∧ (parseMethodDescriptor yX5_loseRow.desc).map (fun d => d.parameters.length) = some 2 := by decide +kernel
def k_X5_loseRow : List (Nat × ac_op) := [(0, op_iload 1 1),
  (1, op_aload 0 2),
  (2, op_get 4 0 5),
  (5, op_alen 4 6),
  (6, op_callS rm_X5_loseRow [] T_X5_requireIndex rm_X5_requireIndex 2 6 9),
  (9, op_aload 0 10),
  (10, op_get 4 0 13),
  (13, op_iload 1 14),
  (14, op_aald 4 15),
  (15, op_ifnull 22 18),
  (18, op_push (.int 1) 19),
  (19, op_goto 23),
  (22, op_push (.int 0) 23),
  (23, op_callS rm_X5_loseRow [] T_X5_requirePresent rm_X5_requirePresent 1 23 26),
  (26, op_aload 0 27),
  (27, op_get 4 0 30),
  (30, op_iload 1 31),
  (31, op_aald 4 32),
  (32, op_alen 0 33),
  (33, op_istore 2 34),
  (34, op_aload 0 35),
  (35, op_get 4 0 38),
  (38, op_iload 1 39),
  (39, op_push .null 40),
  (40, op_aast 4 41),
  (41, op_iload 2 42),
  (42, op_ireturn rm_X5_loseRow)]
def T_X5_loseRow : ac_T := ac_vc k_X5_loseRow 3
set_option maxRecDepth 100000 in
set_option maxHeartbeats 4000000 in
theorem s_X5_loseRow : ∀ x ∈ k_X5_loseRow, ac_So M_X5_loseRow (fun _ _ _ => False) x.1 x.2 :=
  ac_cons (so_iload_n dX5_loseRow_0 rfl rfl) <|
  ac_cons (so_aload_n dX5_loseRow_1 rfl rfl) <|
  ac_cons (so_getN (ci := 4) (f := 0) rfl in_X0 (by decide) dX5_loseRow_2 wd_232 rfl) <|
  ac_cons (so_alen (t := 4) (ty := .array .int) (fun _ => rfl) dX5_loseRow_5 rfl) <|
  ac_cons (so_callS (N := M_X5_requireIndex) C_X5_requireIndex rfl ⟨wd_413, wd_24, dy_X5_requireIndex, ⟨by decide, by decide⟩, tb_X5_loseRow⟩ dX5_loseRow_6 wd_411 wd_412 rfl) <|
  ac_cons (so_aload_n dX5_loseRow_9 rfl rfl) <|
  ac_cons (so_getN (ci := 4) (f := 0) rfl in_X0 (by decide) dX5_loseRow_10 wd_232 rfl) <|
  ac_cons (so_iload_n dX5_loseRow_13 rfl rfl) <|
  ac_cons (so_aald4 dX5_loseRow_14 rfl) <|
  ac_cons (so_ifnull dX5_loseRow_15 (by decide) rfl) <|
  ac_cons (so_iconst dX5_loseRow_18 (by decide +kernel) rfl) <|
  ac_cons (so_goto dX5_loseRow_19 (by decide)) <|
  ac_cons (so_iconst dX5_loseRow_22 (by decide +kernel) rfl) <|
  ac_cons (so_callS (N := M_X5_requirePresent) C_X5_requirePresent rfl ⟨wd_293, wd_24, dy_X5_requirePresent, ⟨by decide, by decide⟩, tb_X5_loseRow⟩ dX5_loseRow_23 wd_291 wd_292 rfl) <|
  ac_cons (so_aload_n dX5_loseRow_26 rfl rfl) <|
  ac_cons (so_getN (ci := 4) (f := 0) rfl in_X0 (by decide) dX5_loseRow_27 wd_232 rfl) <|
  ac_cons (so_iload_n dX5_loseRow_30 rfl rfl) <|
  ac_cons (so_aald4 dX5_loseRow_31 rfl) <|
  ac_cons (so_alen (t := 0) (ty := .int) (fun _ => rfl) dX5_loseRow_32 rfl) <|
  ac_cons (so_istore_n dX5_loseRow_33 rfl rfl) <|
  ac_cons (so_aload_n dX5_loseRow_34 rfl rfl) <|
  ac_cons (so_getN (ci := 4) (f := 0) rfl in_X0 (by decide) dX5_loseRow_35 wd_232 rfl) <|
  ac_cons (so_iload_n dX5_loseRow_38 rfl rfl) <|
  ac_cons (so_null dX5_loseRow_39 rfl) <|
  ac_cons (so_aast4 dX5_loseRow_40 rfl) <|
  ac_cons (so_iload_n dX5_loseRow_41 rfl rfl) <|
  ac_cons (so_ireturn rfl dX5_loseRow_42) <| ac_nil
theorem C_X5_loseRow : ac_Ct yX5_loseRow M_X5_loseRow T_X5_loseRow := ac_meth (by decide +kernel) rfl rfl rfl rfl s_X5_loseRow
-- X5_vectorOf
abbrev rm_X5_vectorOf : Room := { frames := 7, cells := 1, slots := 6, locals := 101 }
abbrev M_X5_vectorOf : ac_D := (RX5, "vectorOf", cX5_vectorOf, 3, some (FieldType.object "TypedHall$VectorItem"), [], rm_X5_vectorOf)
theorem tb_X5_vectorOf : ac_tb RX5 [] := fun q h => (by cases h)
theorem dy_X5_vectorOf : yX5_vectorOf.cls ≠ "java/lang/invoke/MethodHandle" ∧ yX5_vectorOf.cls ≠ "java/lang/invoke/VarHandle" ∧ (parseMethodDescriptor yX5_vectorOf.desc).map (fun d => d.parameters.length) = some 1 := by decide +kernel
def k_X5_vectorOf : List (Nat × ac_op) := [(0, op_aload 0 1),
  (1, op_inst 6 4),
  (4, op_if (fun x => x = 0) 16 7),
  (7, op_aload 0 8),
  (8, op_cast 6 11),
  (11, op_astore 2 12),
  (12, op_aload 2 13),
  (13, op_goto 17),
  (16, op_push .null 17),
  (17, op_astore 1 18),
  (18, op_aload 1 19),
  (19, op_ifnull 26 22),
  (22, op_push (.int 1) 23),
  (23, op_goto 27),
  (26, op_push (.int 0) 27),
  (27, op_callS rm_X5_vectorOf [] T_X5_requireSupported rm_X5_requireSupported 1 27 30),
  (30, op_aload 1 31),
  (31, op_areturn rm_X5_vectorOf)]
def T_X5_vectorOf : ac_T := ac_vc k_X5_vectorOf 3
set_option maxRecDepth 100000 in
set_option maxHeartbeats 4000000 in
theorem s_X5_vectorOf : ∀ x ∈ k_X5_vectorOf, ac_So M_X5_vectorOf (fun _ _ _ => False) x.1 x.2 :=
  ac_cons (so_aload_n dX5_vectorOf_0 rfl rfl) <|
  ac_cons (so_inst (ci := 6) (by decide) rfl dX5_vectorOf_1 wd_186 rfl) <|
  ac_cons (so_if_eq dX5_vectorOf_4 (by decide) rfl) <|
  ac_cons (so_aload_n dX5_vectorOf_7 rfl rfl) <|
  ac_cons (so_cast (ci := 6) rfl dX5_vectorOf_8 wd_186 rfl) <|
  ac_cons (so_astore_n dX5_vectorOf_11 rfl rfl) <|
  ac_cons (so_aload_n dX5_vectorOf_12 rfl rfl) <|
  ac_cons (so_goto dX5_vectorOf_13 (by decide)) <|
  ac_cons (so_null dX5_vectorOf_16 rfl) <|
  ac_cons (so_astore_n dX5_vectorOf_17 rfl rfl) <|
  ac_cons (so_aload_n dX5_vectorOf_18 rfl rfl) <|
  ac_cons (so_ifnull dX5_vectorOf_19 (by decide) rfl) <|
  ac_cons (so_iconst dX5_vectorOf_22 (by decide +kernel) rfl) <|
  ac_cons (so_goto dX5_vectorOf_23 (by decide)) <|
  ac_cons (so_iconst dX5_vectorOf_26 (by decide +kernel) rfl) <|
  ac_cons (so_callS (N := M_X5_requireSupported) C_X5_requireSupported rfl ⟨wd_308, wd_24, dy_X5_requireSupported, ⟨by decide, by decide⟩, tb_X5_vectorOf⟩ dX5_vectorOf_27 wd_306 wd_307 rfl) <|
  ac_cons (so_aload_n dX5_vectorOf_30 rfl rfl) <|
  ac_cons (so_areturn rfl (by first | exact Or.inl ⟨_, rfl⟩ | exact Or.inr ⟨_, rfl⟩) dX5_vectorOf_31) <| ac_nil
theorem C_X5_vectorOf : ac_Ct yX5_vectorOf M_X5_vectorOf T_X5_vectorOf := ac_meth (by decide +kernel) rfl rfl rfl rfl s_X5_vectorOf
-- X5_loseStorage
abbrev rm_X5_loseStorage : Room := { frames := 9, cells := 1, slots := 8, locals := 10262 }
abbrev M_X5_loseStorage : ac_D := (RX5, "loseStorage", cX5_loseStorage, 2, some FieldType.int, [], rm_X5_loseStorage)
theorem tb_X5_loseStorage : ac_tb RX5 [] := fun q h => (by cases h)
theorem dy_X5_loseStorage : yX5_loseStorage.cls ≠ "java/lang/invoke/MethodHandle" ∧ yX5_loseStorage.cls ≠ "java/lang/invoke/VarHandle" ∧ (parseMethodDescriptor yX5_loseStorage.desc).map (fun d => d.parameters.length) = some 1 := by decide +kernel
def k_X5_loseStorage : List (Nat × ac_op) := [(0, op_aload 0 1),
  (1, op_callV rm_X5_loseStorage [] 6 T_X3_isLost rm_X3_isLost 0 1 4),
  (4, op_if (fun x => ¬ x = 0) 11 7),
  (7, op_push (.int 1) 8),
  (8, op_goto 12),
  (11, op_push (.int 0) 12),
  (12, op_callS rm_X5_loseStorage [] T_X5_requirePresent rm_X5_requirePresent 1 12 15),
  (15, op_aload 0 16),
  (16, op_callV rm_X5_loseStorage [] 6 T_X3_length rm_X3_length 0 16 19),
  (19, op_istore 1 20),
  (20, op_aload 0 21),
  (21, op_callV rm_X5_loseStorage [] 6 T_X3_dropStorage rm_X3_dropStorage 0 21 24),
  (24, op_iload 1 25),
  (25, op_ireturn rm_X5_loseStorage)]
def T_X5_loseStorage : ac_T := ac_vc k_X5_loseStorage 2
set_option maxRecDepth 100000 in
set_option maxHeartbeats 4000000 in
theorem s_X5_loseStorage : ∀ x ∈ k_X5_loseStorage, ac_So M_X5_loseStorage (fun _ _ _ => False) x.1 x.2 :=
  ac_cons (so_aload_n dX5_loseStorage_0 rfl rfl) <|
  ac_cons (so_callV (N := M_X3_isLost) (ci := 6) C_X3_isLost rfl ⟨wd_425, wd_33, dy_X3_isLost, ⟨by decide, by decide⟩, tb_X5_loseStorage⟩ rfl dX5_loseStorage_1 wd_422 wd_423 wd_424 rfl) <|
  ac_cons (so_if_ne dX5_loseStorage_4 (by decide) rfl) <|
  ac_cons (so_iconst dX5_loseStorage_7 (by decide +kernel) rfl) <|
  ac_cons (so_goto dX5_loseStorage_8 (by decide)) <|
  ac_cons (so_iconst dX5_loseStorage_11 (by decide +kernel) rfl) <|
  ac_cons (so_callS (N := M_X5_requirePresent) C_X5_requirePresent rfl ⟨wd_293, wd_24, dy_X5_requirePresent, ⟨by decide, by decide⟩, tb_X5_loseStorage⟩ dX5_loseStorage_12 wd_291 wd_292 rfl) <|
  ac_cons (so_aload_n dX5_loseStorage_15 rfl rfl) <|
  ac_cons (so_callV (N := M_X3_length) (ci := 6) C_X3_length rfl ⟨wd_429, wd_33, dy_X3_length, ⟨by decide, by decide⟩, tb_X5_loseStorage⟩ rfl dX5_loseStorage_16 wd_426 wd_427 wd_428 rfl) <|
  ac_cons (so_istore_n dX5_loseStorage_19 rfl rfl) <|
  ac_cons (so_aload_n dX5_loseStorage_20 rfl rfl) <|
  ac_cons (so_callV (N := M_X3_dropStorage) (ci := 6) C_X3_dropStorage rfl ⟨wd_433, wd_33, dy_X3_dropStorage, ⟨by decide, by decide⟩, tb_X5_loseStorage⟩ rfl dX5_loseStorage_21 wd_430 wd_431 wd_432 rfl) <|
  ac_cons (so_iload_n dX5_loseStorage_24 rfl rfl) <|
  ac_cons (so_ireturn rfl dX5_loseStorage_25) <| ac_nil
theorem C_X5_loseStorage : ac_Ct yX5_loseStorage M_X5_loseStorage T_X5_loseStorage := ac_meth (by decide +kernel) rfl rfl rfl rfl s_X5_loseStorage
-- X5_lose
abbrev rm_X5_lose : Room := { frames := 10, cells := 8, slots := 258, locals := 10284 }
abbrev M_X5_lose : ac_D := (RX5, "lose", cX5_lose, 5, some FieldType.int, [], rm_X5_lose)
theorem tb_X5_lose : ac_tb RX5 [] := fun q h => (by cases h)
theorem dy_X5_lose : yX5_lose.cls ≠ "java/lang/invoke/MethodHandle" ∧ yX5_lose.cls ≠ "java/lang/invoke/VarHandle" ∧ (parseMethodDescriptor yX5_lose.desc).map (fun d => d.parameters.length) = some 2 := by decide +kernel
def k_X5_lose : List (Nat × ac_op) := [(0, op_iload 1 1),
  (1, op_callS rm_X5_lose [] T_X5_requireRegister rm_X5_requireRegister 1 1 4),
  (4, op_aload 0 5),
  (5, op_iload 1 6),
  (6, op_callV rm_X5_lose [] 8 T_X5_itemIn rm_X5_itemIn 1 6 9),
  (9, op_astore 3 10),
  (10, op_aload 3 11),
  (11, op_inst 4 14),
  (14, op_if (fun x => x = 0) 30 17),
  (17, op_aload 3 18),
  (18, op_cast 4 21),
  (21, op_astore 4 23),
  (23, op_aload 4 25),
  (25, op_iload 2 26),
  (26, op_callS rm_X5_lose [] T_X5_loseRow rm_X5_loseRow 2 26 29),
  (29, op_ireturn rm_X5_lose),
  (30, op_aload 3 31),
  (31, op_callS rm_X5_lose [] T_X5_vectorOf rm_X5_vectorOf 1 31 34),
  (34, op_callS rm_X5_lose [] T_X5_loseStorage rm_X5_loseStorage 1 34 37),
  (37, op_ireturn rm_X5_lose)]
def T_X5_lose : ac_T := ac_vc k_X5_lose 5
set_option maxRecDepth 100000 in
set_option maxHeartbeats 4000000 in
theorem s_X5_lose : ∀ x ∈ k_X5_lose, ac_So M_X5_lose (fun _ _ _ => False) x.1 x.2 :=
  ac_cons (so_iload_n dX5_lose_0 rfl rfl) <|
  ac_cons (so_callS (N := M_X5_requireRegister) C_X5_requireRegister rfl ⟨wd_158, wd_24, dy_X5_requireRegister, ⟨by decide, by decide⟩, tb_X5_lose⟩ dX5_lose_1 wd_156 wd_157 rfl) <|
  ac_cons (so_aload_n dX5_lose_4 rfl rfl) <|
  ac_cons (so_iload_n dX5_lose_5 rfl rfl) <|
  ac_cons (so_callV (N := M_X5_itemIn) (ci := 8) C_X5_itemIn rfl ⟨wd_290, wd_24, dy_X5_itemIn, ⟨by decide, by decide⟩, tb_X5_lose⟩ rfl dX5_lose_6 wd_287 wd_289 wd_3 rfl) <|
  ac_cons (so_astore_n dX5_lose_9 rfl rfl) <|
  ac_cons (so_aload_n dX5_lose_10 rfl rfl) <|
  ac_cons (so_inst (ci := 4) (by decide) rfl dX5_lose_11 wd_223 rfl) <|
  ac_cons (so_if_eq dX5_lose_14 (by decide) rfl) <|
  ac_cons (so_aload_n dX5_lose_17 rfl rfl) <|
  ac_cons (so_cast (ci := 4) rfl dX5_lose_18 wd_223 rfl) <|
  ac_cons (so_astore dX5_lose_21 rfl) <|
  ac_cons (so_aload dX5_lose_23 rfl) <|
  ac_cons (so_iload_n dX5_lose_25 rfl rfl) <|
  ac_cons (so_callS (N := M_X5_loseRow) C_X5_loseRow rfl ⟨wd_410, wd_24, dy_X5_loseRow, ⟨by decide, by decide⟩, tb_X5_lose⟩ dX5_lose_26 wd_408 wd_409 rfl) <|
  ac_cons (so_ireturn rfl dX5_lose_29) <|
  ac_cons (so_aload_n dX5_lose_30 rfl rfl) <|
  ac_cons (so_callS (N := M_X5_vectorOf) C_X5_vectorOf rfl ⟨wd_418, wd_24, dy_X5_vectorOf, ⟨by decide, by decide⟩, tb_X5_lose⟩ dX5_lose_31 wd_416 wd_417 rfl) <|
  ac_cons (so_callS (N := M_X5_loseStorage) C_X5_loseStorage rfl ⟨wd_421, wd_24, dy_X5_loseStorage, ⟨by decide, by decide⟩, tb_X5_lose⟩ dX5_lose_34 wd_419 wd_420 rfl) <|
  ac_cons (so_ireturn rfl dX5_lose_37) <| ac_nil
theorem C_X5_lose : ac_Ct yX5_lose M_X5_lose T_X5_lose := ac_meth (by decide +kernel) rfl rfl rfl rfl s_X5_lose
-- X5_resize
abbrev rm_X5_resize : Room := { frames := 10, cells := 11, slots := 328, locals := 10284 }
abbrev M_X5_resize : ac_D := (RX5, "resize", cX5_resize, 4, some FieldType.int, [], rm_X5_resize)
theorem tb_X5_resize : ac_tb RX5 [] := fun q h => (by cases h)
theorem dy_X5_resize : yX5_resize.cls ≠ "java/lang/invoke/MethodHandle" ∧ yX5_resize.cls ≠ "java/lang/invoke/VarHandle" ∧ (parseMethodDescriptor yX5_resize.desc).map (fun d => d.parameters.length) = some 2 := by decide +kernel
def k_X5_resize : List (Nat × ac_op) := [(0, op_iload 1 1),
  (1, op_callS rm_X5_resize [] T_X5_requireRegister rm_X5_requireRegister 1 1 4),
  (4, op_iload 2 5),
  (5, op_push (.int 24) 7),
  (7, op_icmp (fun x y => y < x) 14 10),
  (10, op_push (.int 1) 11),
  (11, op_goto 15),
  (14, op_push (.int 0) 15),
  (15, op_callS rm_X5_resize [] T_X5_requireArgument rm_X5_requireArgument 1 15 18),
  (18, op_aload 0 19),
  (19, op_iload 1 20),
  (20, op_callV rm_X5_resize [] 8 T_X5_itemIn rm_X5_itemIn 1 20 23),
  (23, op_callS rm_X5_resize [] T_X5_vectorOf rm_X5_vectorOf 1 23 26),
  (26, op_astore 3 27),
  (27, op_iload 2 28),
  (28, op_callS rm_X5_resize [] T_X5_requireSize rm_X5_requireSize 1 28 31),
  (31, op_aload 3 32),
  (32, op_callV rm_X5_resize [] 6 T_X3_isLost rm_X3_isLost 0 32 35),
  (35, op_if (fun x => ¬ x = 0) 42 38),
  (38, op_push (.int 1) 39),
  (39, op_goto 43),
  (42, op_push (.int 0) 43),
  (43, op_callS rm_X5_resize [] T_X5_requirePresent rm_X5_requirePresent 1 43 46),
  (46, op_aload 3 47),
  (47, op_iload 2 48),
  (48, op_callV rm_X5_resize [] 6 T_X3_changeLength rm_X3_changeLength 1 48 51),
  (51, op_ireturn rm_X5_resize)]
def T_X5_resize : ac_T := ac_vc k_X5_resize 4
set_option maxRecDepth 100000 in
set_option maxHeartbeats 4000000 in
theorem s_X5_resize : ∀ x ∈ k_X5_resize, ac_So M_X5_resize (fun _ _ _ => False) x.1 x.2 :=
  ac_cons (so_iload_n dX5_resize_0 rfl rfl) <|
  ac_cons (so_callS (N := M_X5_requireRegister) C_X5_requireRegister rfl ⟨wd_158, wd_24, dy_X5_requireRegister, ⟨by decide, by decide⟩, tb_X5_resize⟩ dX5_resize_1 wd_156 wd_157 rfl) <|
  ac_cons (so_iload_n dX5_resize_4 rfl rfl) <|
  ac_cons (so_bipush dX5_resize_5 (by decide +kernel) rfl) <|
  ac_cons (so_icmp_gt dX5_resize_7 (by decide) rfl) <|
  ac_cons (so_iconst dX5_resize_10 (by decide +kernel) rfl) <|
  ac_cons (so_goto dX5_resize_11 (by decide)) <|
  ac_cons (so_iconst dX5_resize_14 (by decide +kernel) rfl) <|
  ac_cons (so_callS (N := M_X5_requireArgument) C_X5_requireArgument rfl ⟨wd_161, wd_24, dy_X5_requireArgument, ⟨by decide, by decide⟩, tb_X5_resize⟩ dX5_resize_15 wd_159 wd_160 rfl) <|
  ac_cons (so_aload_n dX5_resize_18 rfl rfl) <|
  ac_cons (so_iload_n dX5_resize_19 rfl rfl) <|
  ac_cons (so_callV (N := M_X5_itemIn) (ci := 8) C_X5_itemIn rfl ⟨wd_290, wd_24, dy_X5_itemIn, ⟨by decide, by decide⟩, tb_X5_resize⟩ rfl dX5_resize_20 wd_287 wd_289 wd_3 rfl) <|
  ac_cons (so_callS (N := M_X5_vectorOf) C_X5_vectorOf rfl ⟨wd_418, wd_24, dy_X5_vectorOf, ⟨by decide, by decide⟩, tb_X5_resize⟩ dX5_resize_23 wd_416 wd_417 rfl) <|
  ac_cons (so_astore_n dX5_resize_26 rfl rfl) <|
  ac_cons (so_iload_n dX5_resize_27 rfl rfl) <|
  ac_cons (so_callS (N := M_X5_requireSize) C_X5_requireSize rfl ⟨wd_185, wd_24, dy_X5_requireSize, ⟨by decide, by decide⟩, tb_X5_resize⟩ dX5_resize_28 wd_183 wd_184 rfl) <|
  ac_cons (so_aload_n dX5_resize_31 rfl rfl) <|
  ac_cons (so_callV (N := M_X3_isLost) (ci := 6) C_X3_isLost rfl ⟨wd_425, wd_33, dy_X3_isLost, ⟨by decide, by decide⟩, tb_X5_resize⟩ rfl dX5_resize_32 wd_422 wd_423 wd_424 rfl) <|
  ac_cons (so_if_ne dX5_resize_35 (by decide) rfl) <|
  ac_cons (so_iconst dX5_resize_38 (by decide +kernel) rfl) <|
  ac_cons (so_goto dX5_resize_39 (by decide)) <|
  ac_cons (so_iconst dX5_resize_42 (by decide +kernel) rfl) <|
  ac_cons (so_callS (N := M_X5_requirePresent) C_X5_requirePresent rfl ⟨wd_293, wd_24, dy_X5_requirePresent, ⟨by decide, by decide⟩, tb_X5_resize⟩ dX5_resize_43 wd_291 wd_292 rfl) <|
  ac_cons (so_aload_n dX5_resize_46 rfl rfl) <|
  ac_cons (so_iload_n dX5_resize_47 rfl rfl) <|
  ac_cons (so_callV (N := M_X3_changeLength) (ci := 6) C_X3_changeLength rfl ⟨wd_444, wd_33, dy_X3_changeLength, ⟨by decide, by decide⟩, tb_X5_resize⟩ rfl dX5_resize_48 wd_441 wd_442 wd_443 rfl) <|
  ac_cons (so_ireturn rfl dX5_resize_51) <| ac_nil
theorem C_X5_resize : ac_Ct yX5_resize M_X5_resize T_X5_resize := ac_meth (by decide +kernel) rfl rfl rfl rfl s_X5_resize
-- X5_size
abbrev rm_X5_size : Room := { frames := 10, cells := 4, slots := 28, locals := 10284 }
abbrev M_X5_size : ac_D := (RX5, "size", cX5_size, 4, some FieldType.int, [], rm_X5_size)
theorem tb_X5_size : ac_tb RX5 [] := fun q h => (by cases h)
theorem dy_X5_size : yX5_size.cls ≠ "java/lang/invoke/MethodHandle" ∧ yX5_size.cls ≠ "java/lang/invoke/VarHandle" ∧ (parseMethodDescriptor yX5_size.desc).map (fun d => d.parameters.length) = some 1 := by decide +kernel
def k_X5_size : List (Nat × ac_op) := [(0, op_iload 1 1),
  (1, op_callS rm_X5_size [] T_X5_requireRegister rm_X5_requireRegister 1 1 4),
  (4, op_aload 0 5),
  (5, op_iload 1 6),
  (6, op_callV rm_X5_size [] 8 T_X5_itemIn rm_X5_itemIn 1 6 9),
  (9, op_astore 2 10),
  (10, op_aload 2 11),
  (11, op_inst 4 14),
  (14, op_if (fun x => x = 0) 28 17),
  (17, op_aload 2 18),
  (18, op_cast 4 21),
  (21, op_astore 3 22),
  (22, op_aload 3 23),
  (23, op_get 4 0 26),
  (26, op_alen 4 27),
  (27, op_ireturn rm_X5_size),
  (28, op_aload 2 29),
  (29, op_callU rm_X5_size [] [(4, T_X1_ground, rm_X1_ground), (5, T_X1_ground, rm_X1_ground), (6, T_X3_ground, rm_X3_ground), (7, T_X4_ground, rm_X4_ground)] 0 29 32),
  (32, op_astore 3 33),
  (33, op_aload 3 34),
  (34, op_ifnull 41 37),
  (37, op_push (.int 1) 38),
  (38, op_goto 42),
  (41, op_push (.int 0) 42),
  (42, op_callS rm_X5_size [] T_X5_requireSupported rm_X5_requireSupported 1 42 45),
  (45, op_aload 3 46),
  (46, op_callV rm_X5_size [] 6 T_X3_isLost rm_X3_isLost 0 46 49),
  (49, op_if (fun x => ¬ x = 0) 56 52),
  (52, op_push (.int 1) 53),
  (53, op_goto 57),
  (56, op_push (.int 0) 57),
  (57, op_callS rm_X5_size [] T_X5_requirePresent rm_X5_requirePresent 1 57 60),
  (60, op_aload 3 61),
  (61, op_callV rm_X5_size [] 6 T_X3_length rm_X3_length 0 61 64),
  (64, op_aload 2 65),
  (65, op_callU rm_X5_size [] [(4, T_X1_shift, rm_X1_shift), (5, T_X1_shift, rm_X1_shift), (6, T_X1_shift, rm_X1_shift), (7, T_X4_shift, rm_X4_shift)] 0 65 68),
  (68, op_ii (fun x y => x - y) 69),
  (69, op_ireturn rm_X5_size)]
def T_X5_size : ac_T := ac_vc k_X5_size 4
set_option maxRecDepth 100000 in
set_option maxHeartbeats 4000000 in
theorem s_X5_size : ∀ x ∈ k_X5_size, ac_So M_X5_size (fun _ _ _ => False) x.1 x.2 :=
  ac_cons (so_iload_n dX5_size_0 rfl rfl) <|
  ac_cons (so_callS (N := M_X5_requireRegister) C_X5_requireRegister rfl ⟨wd_158, wd_24, dy_X5_requireRegister, ⟨by decide, by decide⟩, tb_X5_size⟩ dX5_size_1 wd_156 wd_157 rfl) <|
  ac_cons (so_aload_n dX5_size_4 rfl rfl) <|
  ac_cons (so_iload_n dX5_size_5 rfl rfl) <|
  ac_cons (so_callV (N := M_X5_itemIn) (ci := 8) C_X5_itemIn rfl ⟨wd_290, wd_24, dy_X5_itemIn, ⟨by decide, by decide⟩, tb_X5_size⟩ rfl dX5_size_6 wd_287 wd_289 wd_3 rfl) <|
  ac_cons (so_astore_n dX5_size_9 rfl rfl) <|
  ac_cons (so_aload_n dX5_size_10 rfl rfl) <|
  ac_cons (so_inst (ci := 4) (by decide) rfl dX5_size_11 wd_223 rfl) <|
  ac_cons (so_if_eq dX5_size_14 (by decide) rfl) <|
  ac_cons (so_aload_n dX5_size_17 rfl rfl) <|
  ac_cons (so_cast (ci := 4) rfl dX5_size_18 wd_223 rfl) <|
  ac_cons (so_astore_n dX5_size_21 rfl rfl) <|
  ac_cons (so_aload_n dX5_size_22 rfl rfl) <|
  ac_cons (so_getN (ci := 4) (f := 0) rfl in_X0 (by decide) dX5_size_23 wd_232 rfl) <|
  ac_cons (so_alen (t := 4) (ty := .array .int) (fun _ => rfl) dX5_size_26 rfl) <|
  ac_cons (so_ireturn rfl dX5_size_27) <|
  ac_cons (so_aload_n dX5_size_28 rfl rfl) <|
  ac_cons (so_callU (M := M_X5_size) (x := ⟨"TypedHall$Item", "ground", "()LTypedHall$VectorItem;"⟩) (ac_cons4 (⟨yX1_ground, M_X1_ground, _, C_X1_ground, rfl, rfl, ⟨wd_305, wd_32, dy_X1_ground, ⟨by decide, by decide⟩, tb_X5_size⟩, rfl, wd_295, wd_297⟩) (⟨yX1_ground, M_X1_ground, _, C_X1_ground, rfl, rfl, ⟨wd_305, wd_32, dy_X1_ground, ⟨by decide, by decide⟩, tb_X5_size⟩, rfl, wd_295, wd_298⟩) (⟨yX3_ground, M_X3_ground, _, C_X3_ground, rfl, rfl, ⟨wd_301, wd_33, dy_X3_ground, ⟨by decide, by decide⟩, tb_X5_size⟩, rfl, wd_300, wd_299⟩) (⟨yX4_ground, M_X4_ground, _, C_X4_ground, rfl, rfl, ⟨wd_304, wd_39, dy_X4_ground, ⟨by decide, by decide⟩, tb_X5_size⟩, rfl, wd_303, wd_302⟩)) (Or.inl ⟨wd_295, _, _, _, wd_305⟩) wd_296 ⟨by decide, by decide, by decide +kernel⟩ dX5_size_29 wd_294 rfl) <|
  ac_cons (so_astore_n dX5_size_32 rfl rfl) <|
  ac_cons (so_aload_n dX5_size_33 rfl rfl) <|
  ac_cons (so_ifnull dX5_size_34 (by decide) rfl) <|
  ac_cons (so_iconst dX5_size_37 (by decide +kernel) rfl) <|
  ac_cons (so_goto dX5_size_38 (by decide)) <|
  ac_cons (so_iconst dX5_size_41 (by decide +kernel) rfl) <|
  ac_cons (so_callS (N := M_X5_requireSupported) C_X5_requireSupported rfl ⟨wd_308, wd_24, dy_X5_requireSupported, ⟨by decide, by decide⟩, tb_X5_size⟩ dX5_size_42 wd_306 wd_307 rfl) <|
  ac_cons (so_aload_n dX5_size_45 rfl rfl) <|
  ac_cons (so_callV (N := M_X3_isLost) (ci := 6) C_X3_isLost rfl ⟨wd_425, wd_33, dy_X3_isLost, ⟨by decide, by decide⟩, tb_X5_size⟩ rfl dX5_size_46 wd_422 wd_423 wd_424 rfl) <|
  ac_cons (so_if_ne dX5_size_49 (by decide) rfl) <|
  ac_cons (so_iconst dX5_size_52 (by decide +kernel) rfl) <|
  ac_cons (so_goto dX5_size_53 (by decide)) <|
  ac_cons (so_iconst dX5_size_56 (by decide +kernel) rfl) <|
  ac_cons (so_callS (N := M_X5_requirePresent) C_X5_requirePresent rfl ⟨wd_293, wd_24, dy_X5_requirePresent, ⟨by decide, by decide⟩, tb_X5_size⟩ dX5_size_57 wd_291 wd_292 rfl) <|
  ac_cons (so_aload_n dX5_size_60 rfl rfl) <|
  ac_cons (so_callV (N := M_X3_length) (ci := 6) C_X3_length rfl ⟨wd_429, wd_33, dy_X3_length, ⟨by decide, by decide⟩, tb_X5_size⟩ rfl dX5_size_61 wd_426 wd_427 wd_428 rfl) <|
  ac_cons (so_aload_n dX5_size_64 rfl rfl) <|
  ac_cons (so_callU (M := M_X5_size) (x := ⟨"TypedHall$Item", "shift", "()I"⟩) (ac_cons4 (⟨yX1_shift, M_X1_shift, _, C_X1_shift, rfl, rfl, ⟨wd_358, wd_32, dy_X1_shift, ⟨by decide, by decide⟩, tb_X5_size⟩, rfl, wd_350, wd_352⟩) (⟨yX1_shift, M_X1_shift, _, C_X1_shift, rfl, rfl, ⟨wd_358, wd_32, dy_X1_shift, ⟨by decide, by decide⟩, tb_X5_size⟩, rfl, wd_350, wd_353⟩) (⟨yX1_shift, M_X1_shift, _, C_X1_shift, rfl, rfl, ⟨wd_358, wd_32, dy_X1_shift, ⟨by decide, by decide⟩, tb_X5_size⟩, rfl, wd_350, wd_354⟩) (⟨yX4_shift, M_X4_shift, _, C_X4_shift, rfl, rfl, ⟨wd_357, wd_39, dy_X4_shift, ⟨by decide, by decide⟩, tb_X5_size⟩, rfl, wd_356, wd_355⟩)) (Or.inl ⟨wd_350, _, _, _, wd_358⟩) wd_351 ⟨by decide, by decide, by decide +kernel⟩ dX5_size_65 wd_349 rfl) <|
  ac_cons (so_isub dX5_size_68 rfl) <|
  ac_cons (so_ireturn rfl dX5_size_69) <| ac_nil
theorem C_X5_size : ac_Ct yX5_size M_X5_size T_X5_size := ac_meth (by decide +kernel) rfl rfl rfl rfl s_X5_size
-- X5_placeOf
abbrev rm_X5_placeOf : Room := { frames := 9, cells := 4, slots := 230, locals := 10262 }
abbrev M_X5_placeOf : ac_D := (RX5, "placeOf", cX5_placeOf, 4, some FieldType.int, [], rm_X5_placeOf)
theorem tb_X5_placeOf : ac_tb RX5 [] := fun q h => (by cases h)
theorem dy_X5_placeOf : yX5_placeOf.cls ≠ "java/lang/invoke/MethodHandle" ∧ yX5_placeOf.cls ≠ "java/lang/invoke/VarHandle" ∧ (parseMethodDescriptor yX5_placeOf.desc).map (fun d => d.parameters.length) = some 2 := by decide +kernel
def k_X5_placeOf : List (Nat × ac_op) := [(0, op_aload 0 1),
  (1, op_callU rm_X5_placeOf [] [(4, T_X1_ground, rm_X1_ground), (5, T_X1_ground, rm_X1_ground), (6, T_X3_ground, rm_X3_ground), (7, T_X4_ground, rm_X4_ground)] 0 1 4),
  (4, op_astore 2 5),
  (5, op_aload 0 6),
  (6, op_callU rm_X5_placeOf [] [(4, T_X1_shift, rm_X1_shift), (5, T_X1_shift, rm_X1_shift), (6, T_X1_shift, rm_X1_shift), (7, T_X4_shift, rm_X4_shift)] 0 6 9),
  (9, op_iload 1 10),
  (10, op_ii (fun x y => x + y) 11),
  (11, op_istore 3 12),
  (12, op_aload 2 13),
  (13, op_callV rm_X5_placeOf [] 6 T_X3_isLost rm_X3_isLost 0 13 16),
  (16, op_if (fun x => ¬ x = 0) 23 19),
  (19, op_push (.int 1) 20),
  (20, op_goto 24),
  (23, op_push (.int 0) 24),
  (24, op_callS rm_X5_placeOf [] T_X5_requirePresent rm_X5_requirePresent 1 24 27),
  (27, op_iload 3 28),
  (28, op_aload 2 29),
  (29, op_callV rm_X5_placeOf [] 6 T_X3_length rm_X3_length 0 29 32),
  (32, op_callS rm_X5_placeOf [] T_X5_requireIndex rm_X5_requireIndex 2 32 35),
  (35, op_iload 3 36),
  (36, op_ireturn rm_X5_placeOf)]
def T_X5_placeOf : ac_T := ac_vc k_X5_placeOf 4
set_option maxRecDepth 100000 in
set_option maxHeartbeats 4000000 in
theorem s_X5_placeOf : ∀ x ∈ k_X5_placeOf, ac_So M_X5_placeOf (fun _ _ _ => False) x.1 x.2 :=
  ac_cons (so_aload_n dX5_placeOf_0 rfl rfl) <|
  ac_cons (so_callU (M := M_X5_placeOf) (x := ⟨"TypedHall$Item", "ground", "()LTypedHall$VectorItem;"⟩) (ac_cons4 (⟨yX1_ground, M_X1_ground, _, C_X1_ground, rfl, rfl, ⟨wd_305, wd_32, dy_X1_ground, ⟨by decide, by decide⟩, tb_X5_placeOf⟩, rfl, wd_295, wd_297⟩) (⟨yX1_ground, M_X1_ground, _, C_X1_ground, rfl, rfl, ⟨wd_305, wd_32, dy_X1_ground, ⟨by decide, by decide⟩, tb_X5_placeOf⟩, rfl, wd_295, wd_298⟩) (⟨yX3_ground, M_X3_ground, _, C_X3_ground, rfl, rfl, ⟨wd_301, wd_33, dy_X3_ground, ⟨by decide, by decide⟩, tb_X5_placeOf⟩, rfl, wd_300, wd_299⟩) (⟨yX4_ground, M_X4_ground, _, C_X4_ground, rfl, rfl, ⟨wd_304, wd_39, dy_X4_ground, ⟨by decide, by decide⟩, tb_X5_placeOf⟩, rfl, wd_303, wd_302⟩)) (Or.inl ⟨wd_295, _, _, _, wd_305⟩) wd_296 ⟨by decide, by decide, by decide +kernel⟩ dX5_placeOf_1 wd_294 rfl) <|
  ac_cons (so_astore_n dX5_placeOf_4 rfl rfl) <|
  ac_cons (so_aload_n dX5_placeOf_5 rfl rfl) <|
  ac_cons (so_callU (M := M_X5_placeOf) (x := ⟨"TypedHall$Item", "shift", "()I"⟩) (ac_cons4 (⟨yX1_shift, M_X1_shift, _, C_X1_shift, rfl, rfl, ⟨wd_358, wd_32, dy_X1_shift, ⟨by decide, by decide⟩, tb_X5_placeOf⟩, rfl, wd_350, wd_352⟩) (⟨yX1_shift, M_X1_shift, _, C_X1_shift, rfl, rfl, ⟨wd_358, wd_32, dy_X1_shift, ⟨by decide, by decide⟩, tb_X5_placeOf⟩, rfl, wd_350, wd_353⟩) (⟨yX1_shift, M_X1_shift, _, C_X1_shift, rfl, rfl, ⟨wd_358, wd_32, dy_X1_shift, ⟨by decide, by decide⟩, tb_X5_placeOf⟩, rfl, wd_350, wd_354⟩) (⟨yX4_shift, M_X4_shift, _, C_X4_shift, rfl, rfl, ⟨wd_357, wd_39, dy_X4_shift, ⟨by decide, by decide⟩, tb_X5_placeOf⟩, rfl, wd_356, wd_355⟩)) (Or.inl ⟨wd_350, _, _, _, wd_358⟩) wd_351 ⟨by decide, by decide, by decide +kernel⟩ dX5_placeOf_6 wd_349 rfl) <|
  ac_cons (so_iload_n dX5_placeOf_9 rfl rfl) <|
  ac_cons (so_iadd dX5_placeOf_10 rfl) <|
  ac_cons (so_istore_n dX5_placeOf_11 rfl rfl) <|
  ac_cons (so_aload_n dX5_placeOf_12 rfl rfl) <|
  ac_cons (so_callV (N := M_X3_isLost) (ci := 6) C_X3_isLost rfl ⟨wd_425, wd_33, dy_X3_isLost, ⟨by decide, by decide⟩, tb_X5_placeOf⟩ rfl dX5_placeOf_13 wd_422 wd_423 wd_424 rfl) <|
  ac_cons (so_if_ne dX5_placeOf_16 (by decide) rfl) <|
  ac_cons (so_iconst dX5_placeOf_19 (by decide +kernel) rfl) <|
  ac_cons (so_goto dX5_placeOf_20 (by decide)) <|
  ac_cons (so_iconst dX5_placeOf_23 (by decide +kernel) rfl) <|
  ac_cons (so_callS (N := M_X5_requirePresent) C_X5_requirePresent rfl ⟨wd_293, wd_24, dy_X5_requirePresent, ⟨by decide, by decide⟩, tb_X5_placeOf⟩ dX5_placeOf_24 wd_291 wd_292 rfl) <|
  ac_cons (so_iload_n dX5_placeOf_27 rfl rfl) <|
  ac_cons (so_aload_n dX5_placeOf_28 rfl rfl) <|
  ac_cons (so_callV (N := M_X3_length) (ci := 6) C_X3_length rfl ⟨wd_429, wd_33, dy_X3_length, ⟨by decide, by decide⟩, tb_X5_placeOf⟩ rfl dX5_placeOf_29 wd_426 wd_427 wd_428 rfl) <|
  ac_cons (so_callS (N := M_X5_requireIndex) C_X5_requireIndex rfl ⟨wd_413, wd_24, dy_X5_requireIndex, ⟨by decide, by decide⟩, tb_X5_placeOf⟩ dX5_placeOf_32 wd_411 wd_412 rfl) <|
  ac_cons (so_iload_n dX5_placeOf_35 rfl rfl) <|
  ac_cons (so_ireturn rfl dX5_placeOf_36) <| ac_nil
theorem C_X5_placeOf : ac_Ct yX5_placeOf M_X5_placeOf T_X5_placeOf := ac_meth (by decide +kernel) rfl rfl rfl rfl s_X5_placeOf
-- X5_takeElement
abbrev rm_X5_takeElement : Room := { frames := 10, cells := 4, slots := 230, locals := 10285 }
abbrev M_X5_takeElement : ac_D := (RX5, "takeElement", cX5_takeElement, 3, some FieldType.long, [], rm_X5_takeElement)
theorem tb_X5_takeElement : ac_tb RX5 [] := fun q h => (by cases h)
theorem dy_X5_takeElement : yX5_takeElement.cls ≠ "java/lang/invoke/MethodHandle" ∧ yX5_takeElement.cls ≠ "java/lang/invoke/VarHandle" ∧ (parseMethodDescriptor yX5_takeElement.desc).map (fun d => d.parameters.length) = some 2 := by decide +kernel
def k_X5_takeElement : List (Nat × ac_op) := [(0, op_aload 0 1),
  (1, op_iload 1 2),
  (2, op_callS rm_X5_takeElement [] T_X5_placeOf rm_X5_placeOf 2 2 5),
  (5, op_istore 2 6),
  (6, op_aload 0 7),
  (7, op_callU rm_X5_takeElement [] [(4, T_X1_ground, rm_X1_ground), (5, T_X1_ground, rm_X1_ground), (6, T_X3_ground, rm_X3_ground), (7, T_X4_ground, rm_X4_ground)] 0 7 10),
  (10, op_get 6 1 13),
  (13, op_iload 2 14),
  (14, op_lald 15),
  (15, op_lreturn rm_X5_takeElement)]
def T_X5_takeElement : ac_T := ac_vc k_X5_takeElement 3
set_option maxRecDepth 100000 in
set_option maxHeartbeats 4000000 in
theorem s_X5_takeElement : ∀ x ∈ k_X5_takeElement, ac_So M_X5_takeElement (fun _ _ _ => False) x.1 x.2 :=
  ac_cons (so_aload_n dX5_takeElement_0 rfl rfl) <|
  ac_cons (so_iload_n dX5_takeElement_1 rfl rfl) <|
  ac_cons (so_callS (N := M_X5_placeOf) C_X5_placeOf rfl ⟨wd_501, wd_24, dy_X5_placeOf, ⟨by decide, by decide⟩, tb_X5_takeElement⟩ dX5_takeElement_2 wd_499 wd_500 rfl) <|
  ac_cons (so_istore_n dX5_takeElement_5 rfl rfl) <|
  ac_cons (so_aload_n dX5_takeElement_6 rfl rfl) <|
  ac_cons (so_callU (M := M_X5_takeElement) (x := ⟨"TypedHall$Item", "ground", "()LTypedHall$VectorItem;"⟩) (ac_cons4 (⟨yX1_ground, M_X1_ground, _, C_X1_ground, rfl, rfl, ⟨wd_305, wd_32, dy_X1_ground, ⟨by decide, by decide⟩, tb_X5_takeElement⟩, rfl, wd_295, wd_297⟩) (⟨yX1_ground, M_X1_ground, _, C_X1_ground, rfl, rfl, ⟨wd_305, wd_32, dy_X1_ground, ⟨by decide, by decide⟩, tb_X5_takeElement⟩, rfl, wd_295, wd_298⟩) (⟨yX3_ground, M_X3_ground, _, C_X3_ground, rfl, rfl, ⟨wd_301, wd_33, dy_X3_ground, ⟨by decide, by decide⟩, tb_X5_takeElement⟩, rfl, wd_300, wd_299⟩) (⟨yX4_ground, M_X4_ground, _, C_X4_ground, rfl, rfl, ⟨wd_304, wd_39, dy_X4_ground, ⟨by decide, by decide⟩, tb_X5_takeElement⟩, rfl, wd_303, wd_302⟩)) (Or.inl ⟨wd_295, _, _, _, wd_305⟩) wd_296 ⟨by decide, by decide, by decide +kernel⟩ dX5_takeElement_7 wd_294 rfl) <|
  ac_cons (so_getN (ci := 6) (f := 1) rfl in_X3 (by decide) dX5_takeElement_10 wd_200 rfl) <|
  ac_cons (so_iload_n dX5_takeElement_13 rfl rfl) <|
  ac_cons (so_lald dX5_takeElement_14 rfl) <|
  ac_cons (so_lreturn rfl dX5_takeElement_15) <| ac_nil
theorem C_X5_takeElement : ac_Ct yX5_takeElement M_X5_takeElement T_X5_takeElement := ac_meth (by decide +kernel) rfl rfl rfl rfl s_X5_takeElement
-- X5_take
abbrev rm_X5_take : Room := { frames := 11, cells := 7, slots := 250, locals := 10307 }
abbrev M_X5_take : ac_D := (RX5, "take", cX5_take, 4, some FieldType.long, [], rm_X5_take)
theorem tb_X5_take : ac_tb RX5 [] := fun q h => (by cases h)
theorem dy_X5_take : yX5_take.cls ≠ "java/lang/invoke/MethodHandle" ∧ yX5_take.cls ≠ "java/lang/invoke/VarHandle" ∧ (parseMethodDescriptor yX5_take.desc).map (fun d => d.parameters.length) = some 2 := by decide +kernel
def k_X5_take : List (Nat × ac_op) := [(0, op_iload 1 1),
  (1, op_callS rm_X5_take [] T_X5_requireRegister rm_X5_requireRegister 1 1 4),
  (4, op_aload 0 5),
  (5, op_iload 1 6),
  (6, op_callV rm_X5_take [] 8 T_X5_itemIn rm_X5_itemIn 1 6 9),
  (9, op_astore 3 10),
  (10, op_aload 3 11),
  (11, op_callU rm_X5_take [] [(4, T_X0_sort, rm_X0_sort), (5, T_X2_sort, rm_X2_sort), (6, T_X3_sort, rm_X3_sort), (7, T_X4_sort, rm_X4_sort)] 0 11 14),
  (14, op_push (.int 7) 16),
  (16, op_icmp (fun x y => y < x) 23 19),
  (19, op_push (.int 1) 20),
  (20, op_goto 24),
  (23, op_push (.int 0) 24),
  (24, op_callS rm_X5_take [] T_X5_requireSupported rm_X5_requireSupported 1 24 27),
  (27, op_aload 3 28),
  (28, op_iload 2 29),
  (29, op_callS rm_X5_take [] T_X5_takeElement rm_X5_takeElement 2 29 32),
  (32, op_lreturn rm_X5_take)]
def T_X5_take : ac_T := ac_vc k_X5_take 4
set_option maxRecDepth 100000 in
set_option maxHeartbeats 4000000 in
theorem s_X5_take : ∀ x ∈ k_X5_take, ac_So M_X5_take (fun _ _ _ => False) x.1 x.2 :=
  ac_cons (so_iload_n dX5_take_0 rfl rfl) <|
  ac_cons (so_callS (N := M_X5_requireRegister) C_X5_requireRegister rfl ⟨wd_158, wd_24, dy_X5_requireRegister, ⟨by decide, by decide⟩, tb_X5_take⟩ dX5_take_1 wd_156 wd_157 rfl) <|
  ac_cons (so_aload_n dX5_take_4 rfl rfl) <|
  ac_cons (so_iload_n dX5_take_5 rfl rfl) <|
  ac_cons (so_callV (N := M_X5_itemIn) (ci := 8) C_X5_itemIn rfl ⟨wd_290, wd_24, dy_X5_itemIn, ⟨by decide, by decide⟩, tb_X5_take⟩ rfl dX5_take_6 wd_287 wd_289 wd_3 rfl) <|
  ac_cons (so_astore_n dX5_take_9 rfl rfl) <|
  ac_cons (so_aload_n dX5_take_10 rfl rfl) <|
  ac_cons (so_callU (M := M_X5_take) (x := ⟨"TypedHall$Item", "sort", "()I"⟩) (ac_cons4 (⟨yX0_sort, M_X0_sort, _, C_X0_sort, rfl, rfl, ⟨wd_486, wd_34, dy_X0_sort, ⟨by decide, by decide⟩, tb_X5_take⟩, rfl, wd_485, wd_484⟩) (⟨yX2_sort, M_X2_sort, _, C_X2_sort, rfl, rfl, ⟨wd_489, wd_35, dy_X2_sort, ⟨by decide, by decide⟩, tb_X5_take⟩, rfl, wd_488, wd_487⟩) (⟨yX3_sort, M_X3_sort, _, C_X3_sort, rfl, rfl, ⟨wd_492, wd_33, dy_X3_sort, ⟨by decide, by decide⟩, tb_X5_take⟩, rfl, wd_491, wd_490⟩) (⟨yX4_sort, M_X4_sort, _, C_X4_sort, rfl, rfl, ⟨wd_495, wd_39, dy_X4_sort, ⟨by decide, by decide⟩, tb_X5_take⟩, rfl, wd_494, wd_493⟩)) (Or.inr wd_482) wd_483 ⟨by decide, by decide, by decide +kernel⟩ dX5_take_11 wd_481 rfl) <|
  ac_cons (so_bipush dX5_take_14 (by decide +kernel) rfl) <|
  ac_cons (so_icmp_gt dX5_take_16 (by decide) rfl) <|
  ac_cons (so_iconst dX5_take_19 (by decide +kernel) rfl) <|
  ac_cons (so_goto dX5_take_20 (by decide)) <|
  ac_cons (so_iconst dX5_take_23 (by decide +kernel) rfl) <|
  ac_cons (so_callS (N := M_X5_requireSupported) C_X5_requireSupported rfl ⟨wd_308, wd_24, dy_X5_requireSupported, ⟨by decide, by decide⟩, tb_X5_take⟩ dX5_take_24 wd_306 wd_307 rfl) <|
  ac_cons (so_aload_n dX5_take_27 rfl rfl) <|
  ac_cons (so_iload_n dX5_take_28 rfl rfl) <|
  ac_cons (so_callS (N := M_X5_takeElement) C_X5_takeElement rfl ⟨wd_498, wd_24, dy_X5_takeElement, ⟨by decide, by decide⟩, tb_X5_take⟩ dX5_take_29 wd_496 wd_497 rfl) <|
  ac_cons (so_lreturn rfl dX5_take_32) <| ac_nil
theorem C_X5_take : ac_Ct yX5_take M_X5_take T_X5_take := ac_meth (by decide +kernel) rfl rfl rfl rfl s_X5_take
-- X5_fitted
abbrev rm_X5_fitted : Room := { frames := 0, cells := 0, slots := 0, locals := 0 }
abbrev M_X5_fitted : ac_D := (RX5, "fitted", cX5_fitted, 3, some FieldType.long, [], rm_X5_fitted)
theorem tb_X5_fitted : ac_tb RX5 [] := fun q h => (by cases h)
theorem dy_X5_fitted : yX5_fitted.cls ≠ "java/lang/invoke/MethodHandle" ∧ yX5_fitted.cls ≠ "java/lang/invoke/VarHandle" ∧ (parseMethodDescriptor yX5_fitted.desc).map (fun d => d.parameters.length) = some 2 := by decide +kernel
def k_X5_fitted : List (Nat × ac_op) := [(0, op_iload 0 1),
  (1, op_switch 87 [48, 60, 65, 70, 75, 87, 79, 83]),
  (48, op_lload 1 49),
  (49, op_push (.long 0) 50),
  (50, op_lcmp 51),
  (51, op_if (fun x => x = 0) 58 54),
  (54, op_push (.long 1) 55),
  (55, op_goto 59),
  (58, op_push (.long 0) 59),
  (59, op_lreturn rm_X5_fitted),
  (60, op_lload 1 61),
  (61, op_l (fun x => .int x.toInt32) 62),
  (62, op_i (fun x => .int x.toInt8.toInt32) 63),
  (63, op_i (fun x => .long x.toInt64) 64),
  (64, op_lreturn rm_X5_fitted),
  (65, op_lload 1 66),
  (66, op_l (fun x => .int x.toInt32) 67),
  (67, op_i (fun x => .int x.toInt16.toInt32) 68),
  (68, op_i (fun x => .long x.toInt64) 69),
  (69, op_lreturn rm_X5_fitted),
  (70, op_lload 1 71),
  (71, op_l (fun x => .int x.toInt32) 72),
  (72, op_i (fun x => .int (x.toUInt32 % 65536).toInt32) 73),
  (73, op_i (fun x => .long x.toInt64) 74),
  (74, op_lreturn rm_X5_fitted),
  (75, op_lload 1 76),
  (76, op_l (fun x => .int x.toInt32) 77),
  (77, op_i (fun x => .long x.toInt64) 78),
  (78, op_lreturn rm_X5_fitted),
  (79, op_lload 1 80),
  (80, op_l (fun x => .float (FP.l2f x)) 81),
  (81, op_f2l 82),
  (82, op_lreturn rm_X5_fitted),
  (83, op_lload 1 84),
  (84, op_l (fun x => .double (FP.l2d x)) 85),
  (85, op_d2l 86),
  (86, op_lreturn rm_X5_fitted),
  (87, op_lload 1 88),
  (88, op_lreturn rm_X5_fitted)]
def T_X5_fitted : ac_T := ac_vc k_X5_fitted 3
set_option maxRecDepth 100000 in
set_option maxHeartbeats 4000000 in
theorem s_X5_fitted : ∀ x ∈ k_X5_fitted, ac_So M_X5_fitted (fun _ _ _ => False) x.1 x.2 :=
  ac_cons (so_iload_n dX5_fitted_0 rfl rfl) <|
  ac_cons (so_switch dX5_fitted_1 (by decide) (by decide) (by decide) (by decide)) <|
  ac_cons (so_lload_n dX5_fitted_48 rfl rfl) <|
  ac_cons (so_lconst dX5_fitted_49 (by decide +kernel) rfl) <|
  ac_cons (so_lcmp dX5_fitted_50 rfl) <|
  ac_cons (so_if_eq dX5_fitted_51 (by decide) rfl) <|
  ac_cons (so_lconst dX5_fitted_54 (by decide +kernel) rfl) <|
  ac_cons (so_goto dX5_fitted_55 (by decide)) <|
  ac_cons (so_lconst dX5_fitted_58 (by decide +kernel) rfl) <|
  ac_cons (so_lreturn rfl dX5_fitted_59) <|
  ac_cons (so_lload_n dX5_fitted_60 rfl rfl) <|
  ac_cons (so_l2i dX5_fitted_61 rfl) <|
  ac_cons (so_i2b dX5_fitted_62 rfl) <|
  ac_cons (so_i2l dX5_fitted_63 rfl) <|
  ac_cons (so_lreturn rfl dX5_fitted_64) <|
  ac_cons (so_lload_n dX5_fitted_65 rfl rfl) <|
  ac_cons (so_l2i dX5_fitted_66 rfl) <|
  ac_cons (so_i2s dX5_fitted_67 rfl) <|
  ac_cons (so_i2l dX5_fitted_68 rfl) <|
  ac_cons (so_lreturn rfl dX5_fitted_69) <|
  ac_cons (so_lload_n dX5_fitted_70 rfl rfl) <|
  ac_cons (so_l2i dX5_fitted_71 rfl) <|
  ac_cons (so_i2c dX5_fitted_72 rfl) <|
  ac_cons (so_i2l dX5_fitted_73 rfl) <|
  ac_cons (so_lreturn rfl dX5_fitted_74) <|
  ac_cons (so_lload_n dX5_fitted_75 rfl rfl) <|
  ac_cons (so_l2i dX5_fitted_76 rfl) <|
  ac_cons (so_i2l dX5_fitted_77 rfl) <|
  ac_cons (so_lreturn rfl dX5_fitted_78) <|
  ac_cons (so_lload_n dX5_fitted_79 rfl rfl) <|
  ac_cons (so_l2f dX5_fitted_80 rfl) <|
  ac_cons (so_f2l dX5_fitted_81 rfl) <|
  ac_cons (so_lreturn rfl dX5_fitted_82) <|
  ac_cons (so_lload_n dX5_fitted_83 rfl rfl) <|
  ac_cons (so_l2d dX5_fitted_84 rfl) <|
  ac_cons (so_d2l dX5_fitted_85 rfl) <|
  ac_cons (so_lreturn rfl dX5_fitted_86) <|
  ac_cons (so_lload_n dX5_fitted_87 rfl rfl) <|
  ac_cons (so_lreturn rfl dX5_fitted_88) <| ac_nil
theorem C_X5_fitted : ac_Ct yX5_fitted M_X5_fitted T_X5_fitted := ac_meth (by decide +kernel) rfl rfl rfl rfl s_X5_fitted
-- X5_putElement
abbrev rm_X5_putElement : Room := { frames := 10, cells := 4, slots := 230, locals := 10285 }
abbrev M_X5_putElement : ac_D := (RX5, "putElement", cX5_putElement, 6, some FieldType.long, [], rm_X5_putElement)
theorem tb_X5_putElement : ac_tb RX5 [] := fun q h => (by cases h)
theorem dy_X5_putElement : yX5_putElement.cls ≠ "java/lang/invoke/MethodHandle" ∧ yX5_putElement.cls ≠ "java/lang/invoke/VarHandle" ∧ (parseMethodDescriptor yX5_putElement.desc).map (fun d => d.parameters.length) = some 3 := by decide +kernel
def k_X5_putElement : List (Nat × ac_op) := [(0, op_aload 0 1),
  (1, op_iload 1 2),
  (2, op_callS rm_X5_putElement [] T_X5_placeOf rm_X5_placeOf 2 2 5),
  (5, op_istore 4 7),
  (7, op_aload 0 8),
  (8, op_callU rm_X5_putElement [] [(4, T_X1_ground, rm_X1_ground), (5, T_X1_ground, rm_X1_ground), (6, T_X3_ground, rm_X3_ground), (7, T_X4_ground, rm_X4_ground)] 0 8 11),
  (11, op_astore 5 13),
  (13, op_aload 5 15),
  (15, op_get 6 1 18),
  (18, op_iload 4 20),
  (20, op_aload 5 22),
  (22, op_get 6 0 25),
  (25, op_lload 2 26),
  (26, op_callS rm_X5_putElement [] T_X5_fitted rm_X5_fitted 2 26 29),
  (29, op_last 30),
  (30, op_aload 5 32),
  (32, op_get 6 1 35),
  (35, op_iload 4 37),
  (37, op_lald 38),
  (38, op_lreturn rm_X5_putElement)]
def T_X5_putElement : ac_T := ac_vc k_X5_putElement 6
set_option maxRecDepth 100000 in
set_option maxHeartbeats 4000000 in
theorem s_X5_putElement : ∀ x ∈ k_X5_putElement, ac_So M_X5_putElement (fun _ _ _ => False) x.1 x.2 :=
  ac_cons (so_aload_n dX5_putElement_0 rfl rfl) <|
  ac_cons (so_iload_n dX5_putElement_1 rfl rfl) <|
  ac_cons (so_callS (N := M_X5_placeOf) C_X5_placeOf rfl ⟨wd_501, wd_24, dy_X5_placeOf, ⟨by decide, by decide⟩, tb_X5_putElement⟩ dX5_putElement_2 wd_499 wd_500 rfl) <|
  ac_cons (so_istore dX5_putElement_5 rfl) <|
  ac_cons (so_aload_n dX5_putElement_7 rfl rfl) <|
  ac_cons (so_callU (M := M_X5_putElement) (x := ⟨"TypedHall$Item", "ground", "()LTypedHall$VectorItem;"⟩) (ac_cons4 (⟨yX1_ground, M_X1_ground, _, C_X1_ground, rfl, rfl, ⟨wd_305, wd_32, dy_X1_ground, ⟨by decide, by decide⟩, tb_X5_putElement⟩, rfl, wd_295, wd_297⟩) (⟨yX1_ground, M_X1_ground, _, C_X1_ground, rfl, rfl, ⟨wd_305, wd_32, dy_X1_ground, ⟨by decide, by decide⟩, tb_X5_putElement⟩, rfl, wd_295, wd_298⟩) (⟨yX3_ground, M_X3_ground, _, C_X3_ground, rfl, rfl, ⟨wd_301, wd_33, dy_X3_ground, ⟨by decide, by decide⟩, tb_X5_putElement⟩, rfl, wd_300, wd_299⟩) (⟨yX4_ground, M_X4_ground, _, C_X4_ground, rfl, rfl, ⟨wd_304, wd_39, dy_X4_ground, ⟨by decide, by decide⟩, tb_X5_putElement⟩, rfl, wd_303, wd_302⟩)) (Or.inl ⟨wd_295, _, _, _, wd_305⟩) wd_296 ⟨by decide, by decide, by decide +kernel⟩ dX5_putElement_8 wd_294 rfl) <|
  ac_cons (so_astore dX5_putElement_11 rfl) <|
  ac_cons (so_aload dX5_putElement_13 rfl) <|
  ac_cons (so_getN (ci := 6) (f := 1) rfl in_X3 (by decide) dX5_putElement_15 wd_200 rfl) <|
  ac_cons (so_iload dX5_putElement_18 rfl) <|
  ac_cons (so_aload dX5_putElement_20 rfl) <|
  ac_cons (so_getN (ci := 6) (f := 0) rfl in_X3 (by decide) dX5_putElement_22 wd_198 rfl) <|
  ac_cons (so_lload_n dX5_putElement_25 rfl rfl) <|
  ac_cons (so_callS (N := M_X5_fitted) C_X5_fitted rfl ⟨wd_514, wd_24, dy_X5_fitted, ⟨by decide, by decide⟩, tb_X5_putElement⟩ dX5_putElement_26 wd_512 wd_513 rfl) <|
  ac_cons (so_last dX5_putElement_29 rfl) <|
  ac_cons (so_aload dX5_putElement_30 rfl) <|
  ac_cons (so_getN (ci := 6) (f := 1) rfl in_X3 (by decide) dX5_putElement_32 wd_200 rfl) <|
  ac_cons (so_iload dX5_putElement_35 rfl) <|
  ac_cons (so_lald dX5_putElement_37 rfl) <|
  ac_cons (so_lreturn rfl dX5_putElement_38) <| ac_nil
theorem C_X5_putElement : ac_Ct yX5_putElement M_X5_putElement T_X5_putElement := ac_meth (by decide +kernel) rfl rfl rfl rfl s_X5_putElement
-- X5_put
abbrev rm_X5_put : Room := { frames := 11, cells := 7, slots := 250, locals := 10310 }
abbrev M_X5_put : ac_D := (RX5, "put", cX5_put, 6, some FieldType.long, [], rm_X5_put)
theorem tb_X5_put : ac_tb RX5 [] := fun q h => (by cases h)
theorem dy_X5_put : yX5_put.cls ≠ "java/lang/invoke/MethodHandle" ∧ yX5_put.cls ≠ "java/lang/invoke/VarHandle" ∧ (parseMethodDescriptor yX5_put.desc).map (fun d => d.parameters.length) = some 3 := by decide +kernel
def k_X5_put : List (Nat × ac_op) := [(0, op_iload 1 1),
  (1, op_callS rm_X5_put [] T_X5_requireRegister rm_X5_requireRegister 1 1 4),
  (4, op_aload 0 5),
  (5, op_iload 1 6),
  (6, op_callV rm_X5_put [] 8 T_X5_itemIn rm_X5_itemIn 1 6 9),
  (9, op_astore 5 11),
  (11, op_aload 5 13),
  (13, op_callU rm_X5_put [] [(4, T_X0_sort, rm_X0_sort), (5, T_X2_sort, rm_X2_sort), (6, T_X3_sort, rm_X3_sort), (7, T_X4_sort, rm_X4_sort)] 0 13 16),
  (16, op_push (.int 7) 18),
  (18, op_icmp (fun x y => y < x) 25 21),
  (21, op_push (.int 1) 22),
  (22, op_goto 26),
  (25, op_push (.int 0) 26),
  (26, op_callS rm_X5_put [] T_X5_requireSupported rm_X5_requireSupported 1 26 29),
  (29, op_aload 5 31),
  (31, op_iload 2 32),
  (32, op_lload 3 33),
  (33, op_callS rm_X5_put [] T_X5_putElement rm_X5_putElement 3 33 36),
  (36, op_lreturn rm_X5_put)]
def T_X5_put : ac_T := ac_vc k_X5_put 6
set_option maxRecDepth 100000 in
set_option maxHeartbeats 4000000 in
theorem s_X5_put : ∀ x ∈ k_X5_put, ac_So M_X5_put (fun _ _ _ => False) x.1 x.2 :=
  ac_cons (so_iload_n dX5_put_0 rfl rfl) <|
  ac_cons (so_callS (N := M_X5_requireRegister) C_X5_requireRegister rfl ⟨wd_158, wd_24, dy_X5_requireRegister, ⟨by decide, by decide⟩, tb_X5_put⟩ dX5_put_1 wd_156 wd_157 rfl) <|
  ac_cons (so_aload_n dX5_put_4 rfl rfl) <|
  ac_cons (so_iload_n dX5_put_5 rfl rfl) <|
  ac_cons (so_callV (N := M_X5_itemIn) (ci := 8) C_X5_itemIn rfl ⟨wd_290, wd_24, dy_X5_itemIn, ⟨by decide, by decide⟩, tb_X5_put⟩ rfl dX5_put_6 wd_287 wd_289 wd_3 rfl) <|
  ac_cons (so_astore dX5_put_9 rfl) <|
  ac_cons (so_aload dX5_put_11 rfl) <|
  ac_cons (so_callU (M := M_X5_put) (x := ⟨"TypedHall$Item", "sort", "()I"⟩) (ac_cons4 (⟨yX0_sort, M_X0_sort, _, C_X0_sort, rfl, rfl, ⟨wd_486, wd_34, dy_X0_sort, ⟨by decide, by decide⟩, tb_X5_put⟩, rfl, wd_485, wd_484⟩) (⟨yX2_sort, M_X2_sort, _, C_X2_sort, rfl, rfl, ⟨wd_489, wd_35, dy_X2_sort, ⟨by decide, by decide⟩, tb_X5_put⟩, rfl, wd_488, wd_487⟩) (⟨yX3_sort, M_X3_sort, _, C_X3_sort, rfl, rfl, ⟨wd_492, wd_33, dy_X3_sort, ⟨by decide, by decide⟩, tb_X5_put⟩, rfl, wd_491, wd_490⟩) (⟨yX4_sort, M_X4_sort, _, C_X4_sort, rfl, rfl, ⟨wd_495, wd_39, dy_X4_sort, ⟨by decide, by decide⟩, tb_X5_put⟩, rfl, wd_494, wd_493⟩)) (Or.inr wd_482) wd_483 ⟨by decide, by decide, by decide +kernel⟩ dX5_put_13 wd_481 rfl) <|
  ac_cons (so_bipush dX5_put_16 (by decide +kernel) rfl) <|
  ac_cons (so_icmp_gt dX5_put_18 (by decide) rfl) <|
  ac_cons (so_iconst dX5_put_21 (by decide +kernel) rfl) <|
  ac_cons (so_goto dX5_put_22 (by decide)) <|
  ac_cons (so_iconst dX5_put_25 (by decide +kernel) rfl) <|
  ac_cons (so_callS (N := M_X5_requireSupported) C_X5_requireSupported rfl ⟨wd_308, wd_24, dy_X5_requireSupported, ⟨by decide, by decide⟩, tb_X5_put⟩ dX5_put_26 wd_306 wd_307 rfl) <|
  ac_cons (so_aload dX5_put_29 rfl) <|
  ac_cons (so_iload_n dX5_put_31 rfl rfl) <|
  ac_cons (so_lload_n dX5_put_32 rfl rfl) <|
  ac_cons (so_callS (N := M_X5_putElement) C_X5_putElement rfl ⟨wd_511, wd_24, dy_X5_putElement, ⟨by decide, by decide⟩, tb_X5_put⟩ dX5_put_33 wd_509 wd_510 rfl) <|
  ac_cons (so_lreturn rfl dX5_put_36) <| ac_nil
theorem C_X5_put : ac_Ct yX5_put M_X5_put T_X5_put := ac_meth (by decide +kernel) rfl rfl rfl rfl s_X5_put
-- X5_gridIn
abbrev rm_X5_gridIn : Room := { frames := 9, cells := 2, slots := 14, locals := 10262 }
abbrev M_X5_gridIn : ac_D := (RX5, "gridIn", cX5_gridIn, 5, some (FieldType.object "TypedHall$GridItem"), [], rm_X5_gridIn)
theorem tb_X5_gridIn : ac_tb RX5 [] := fun q h => (by cases h)
theorem dy_X5_gridIn : yX5_gridIn.cls ≠ "java/lang/invoke/MethodHandle" ∧ yX5_gridIn.cls ≠ "java/lang/invoke/VarHandle" ∧ (parseMethodDescriptor yX5_gridIn.desc).map (fun d => d.parameters.length) = some 1 := by decide +kernel
def k_X5_gridIn : List (Nat × ac_op) := [(0, op_aload 0 1),
  (1, op_get 8 0 4),
  (4, op_iload 1 5),
  (5, op_aald 3 6),
  (6, op_astore 2 7),
  (7, op_aload 2 8),
  (8, op_inst 4 11),
  (11, op_if (fun x => x = 0) 25 14),
  (14, op_aload 2 15),
  (15, op_cast 4 18),
  (18, op_astore 4 20),
  (20, op_aload 4 22),
  (22, op_goto 26),
  (25, op_push .null 26),
  (26, op_astore 3 27),
  (27, op_aload 2 28),
  (28, op_ifnull 35 31),
  (31, op_aload 3 32),
  (32, op_ifnull 39 35),
  (35, op_push (.int 1) 36),
  (36, op_goto 40),
  (39, op_push (.int 0) 40),
  (40, op_callS rm_X5_gridIn [] T_X5_requireSupported rm_X5_requireSupported 1 40 43),
  (43, op_aload 3 44),
  (44, op_ifnull 51 47),
  (47, op_push (.int 1) 48),
  (48, op_goto 52),
  (51, op_push (.int 0) 52),
  (52, op_callS rm_X5_gridIn [] T_X5_requirePresent rm_X5_requirePresent 1 52 55),
  (55, op_aload 3 56),
  (56, op_areturn rm_X5_gridIn)]
def T_X5_gridIn : ac_T := ac_vc k_X5_gridIn 5
set_option maxRecDepth 100000 in
set_option maxHeartbeats 4000000 in
theorem s_X5_gridIn : ∀ x ∈ k_X5_gridIn, ac_So M_X5_gridIn (fun _ _ _ => False) x.1 x.2 :=
  ac_cons (so_aload_n dX5_gridIn_0 rfl rfl) <|
  ac_cons (so_get (ci := 8) (f := 0) rfl in_X5 (by decide) dX5_gridIn_1 wd_56 rfl) <|
  ac_cons (so_iload_n dX5_gridIn_4 rfl rfl) <|
  ac_cons (so_aald3 dX5_gridIn_5 rfl) <|
  ac_cons (so_astore_n dX5_gridIn_6 rfl rfl) <|
  ac_cons (so_aload_n dX5_gridIn_7 rfl rfl) <|
  ac_cons (so_inst (ci := 4) (by decide) rfl dX5_gridIn_8 wd_223 rfl) <|
  ac_cons (so_if_eq dX5_gridIn_11 (by decide) rfl) <|
  ac_cons (so_aload_n dX5_gridIn_14 rfl rfl) <|
  ac_cons (so_cast (ci := 4) rfl dX5_gridIn_15 wd_223 rfl) <|
  ac_cons (so_astore dX5_gridIn_18 rfl) <|
  ac_cons (so_aload dX5_gridIn_20 rfl) <|
  ac_cons (so_goto dX5_gridIn_22 (by decide)) <|
  ac_cons (so_null dX5_gridIn_25 rfl) <|
  ac_cons (so_astore_n dX5_gridIn_26 rfl rfl) <|
  ac_cons (so_aload_n dX5_gridIn_27 rfl rfl) <|
  ac_cons (so_ifnull dX5_gridIn_28 (by decide) rfl) <|
  ac_cons (so_aload_n dX5_gridIn_31 rfl rfl) <|
  ac_cons (so_ifnull dX5_gridIn_32 (by decide) rfl) <|
  ac_cons (so_iconst dX5_gridIn_35 (by decide +kernel) rfl) <|
  ac_cons (so_goto dX5_gridIn_36 (by decide)) <|
  ac_cons (so_iconst dX5_gridIn_39 (by decide +kernel) rfl) <|
  ac_cons (so_callS (N := M_X5_requireSupported) C_X5_requireSupported rfl ⟨wd_308, wd_24, dy_X5_requireSupported, ⟨by decide, by decide⟩, tb_X5_gridIn⟩ dX5_gridIn_40 wd_306 wd_307 rfl) <|
  ac_cons (so_aload_n dX5_gridIn_43 rfl rfl) <|
  ac_cons (so_ifnull dX5_gridIn_44 (by decide) rfl) <|
  ac_cons (so_iconst dX5_gridIn_47 (by decide +kernel) rfl) <|
  ac_cons (so_goto dX5_gridIn_48 (by decide)) <|
  ac_cons (so_iconst dX5_gridIn_51 (by decide +kernel) rfl) <|
  ac_cons (so_callS (N := M_X5_requirePresent) C_X5_requirePresent rfl ⟨wd_293, wd_24, dy_X5_requirePresent, ⟨by decide, by decide⟩, tb_X5_gridIn⟩ dX5_gridIn_52 wd_291 wd_292 rfl) <|
  ac_cons (so_aload_n dX5_gridIn_55 rfl rfl) <|
  ac_cons (so_areturn rfl (by first | exact Or.inl ⟨_, rfl⟩ | exact Or.inr ⟨_, rfl⟩) dX5_gridIn_56) <| ac_nil
theorem C_X5_gridIn : ac_Ct yX5_gridIn M_X5_gridIn T_X5_gridIn := ac_meth (by decide +kernel) rfl rfl rfl rfl s_X5_gridIn
-- X5_requireCell
abbrev rm_X5_requireCell : Room := { frames := 9, cells := 4, slots := 230, locals := 10262 }
abbrev M_X5_requireCell : ac_D := (RX5, "requireCell", cX5_requireCell, 2, none, [], rm_X5_requireCell)
theorem tb_X5_requireCell : ac_tb RX5 [] := fun q h => (by cases h)
theorem dy_X5_requireCell : yX5_requireCell.cls ≠ "java/lang/invoke/MethodHandle" ∧ yX5_requireCell.cls ≠ "java/lang/invoke/VarHandle" ∧ (parseMethodDescriptor yX5_requireCell.desc).map (fun d => d.parameters.length) = some 2 := by decide +kernel
def k_X5_requireCell : List (Nat × ac_op) := [(0, op_aload 0 1),
  (1, op_ifnull 8 4),
  (4, op_push (.int 1) 5),
  (5, op_goto 9),
  (8, op_push (.int 0) 9),
  (9, op_callS rm_X5_requireCell [] T_X5_requirePresent rm_X5_requirePresent 1 9 12),
  (12, op_iload 1 13),
  (13, op_aload 0 14),
  (14, op_alen 0 15),
  (15, op_callS rm_X5_requireCell [] T_X5_requireIndex rm_X5_requireIndex 2 15 18),
  (18, op_return rm_X5_requireCell)]
def T_X5_requireCell : ac_T := ac_vc k_X5_requireCell 2
set_option maxRecDepth 100000 in
set_option maxHeartbeats 4000000 in
theorem s_X5_requireCell : ∀ x ∈ k_X5_requireCell, ac_So M_X5_requireCell (fun _ _ _ => False) x.1 x.2 :=
  ac_cons (so_aload_n dX5_requireCell_0 rfl rfl) <|
  ac_cons (so_ifnull dX5_requireCell_1 (by decide) rfl) <|
  ac_cons (so_iconst dX5_requireCell_4 (by decide +kernel) rfl) <|
  ac_cons (so_goto dX5_requireCell_5 (by decide)) <|
  ac_cons (so_iconst dX5_requireCell_8 (by decide +kernel) rfl) <|
  ac_cons (so_callS (N := M_X5_requirePresent) C_X5_requirePresent rfl ⟨wd_293, wd_24, dy_X5_requirePresent, ⟨by decide, by decide⟩, tb_X5_requireCell⟩ dX5_requireCell_9 wd_291 wd_292 rfl) <|
  ac_cons (so_iload_n dX5_requireCell_12 rfl rfl) <|
  ac_cons (so_aload_n dX5_requireCell_13 rfl rfl) <|
  ac_cons (so_alen (t := 0) (ty := .int) (fun _ => rfl) dX5_requireCell_14 rfl) <|
  ac_cons (so_callS (N := M_X5_requireIndex) C_X5_requireIndex rfl ⟨wd_413, wd_24, dy_X5_requireIndex, ⟨by decide, by decide⟩, tb_X5_requireCell⟩ dX5_requireCell_15 wd_411 wd_412 rfl) <|
  ac_cons (so_return rfl dX5_requireCell_18) <| ac_nil
theorem C_X5_requireCell : ac_Ct yX5_requireCell M_X5_requireCell T_X5_requireCell := ac_meth (by decide +kernel) rfl rfl rfl rfl s_X5_requireCell
-- X5_cell
abbrev rm_X5_cell : Room := { frames := 10, cells := 10, slots := 472, locals := 10286 }
abbrev M_X5_cell : ac_D := (RX5, "cell", cX5_cell, 5, some FieldType.int, [], rm_X5_cell)
theorem tb_X5_cell : ac_tb RX5 [] := fun q h => (by cases h)
theorem dy_X5_cell : yX5_cell.cls ≠ "java/lang/invoke/MethodHandle" ∧ yX5_cell.cls ≠ "java/lang/invoke/VarHandle" ∧ (parseMethodDescriptor yX5_cell.desc).map (fun d => d.parameters.length) = some 3 := by decide +kernel
def k_X5_cell : List (Nat × ac_op) := [(0, op_iload 1 1),
  (1, op_callS rm_X5_cell [] T_X5_requireRegister rm_X5_requireRegister 1 1 4),
  (4, op_aload 0 5),
  (5, op_iload 1 6),
  (6, op_callV rm_X5_cell [] 8 T_X5_gridIn rm_X5_gridIn 1 6 9),
  (9, op_astore 4 11),
  (11, op_iload 2 12),
  (12, op_aload 4 14),
  (14, op_get 4 0 17),
  (17, op_alen 4 18),
  (18, op_callS rm_X5_cell [] T_X5_requireIndex rm_X5_requireIndex 2 18 21),
  (21, op_aload 4 23),
  (23, op_get 4 0 26),
  (26, op_iload 2 27),
  (27, op_aald 4 28),
  (28, op_iload 3 29),
  (29, op_callS rm_X5_cell [] T_X5_requireCell rm_X5_requireCell 2 29 32),
  (32, op_aload 4 34),
  (34, op_get 4 0 37),
  (37, op_iload 2 38),
  (38, op_aald 4 39),
  (39, op_iload 3 40),
  (40, op_iald 41),
  (41, op_ireturn rm_X5_cell)]
def T_X5_cell : ac_T := ac_vc k_X5_cell 5
set_option maxRecDepth 100000 in
set_option maxHeartbeats 4000000 in
theorem s_X5_cell : ∀ x ∈ k_X5_cell, ac_So M_X5_cell (fun _ _ _ => False) x.1 x.2 :=
  ac_cons (so_iload_n dX5_cell_0 rfl rfl) <|
  ac_cons (so_callS (N := M_X5_requireRegister) C_X5_requireRegister rfl ⟨wd_158, wd_24, dy_X5_requireRegister, ⟨by decide, by decide⟩, tb_X5_cell⟩ dX5_cell_1 wd_156 wd_157 rfl) <|
  ac_cons (so_aload_n dX5_cell_4 rfl rfl) <|
  ac_cons (so_iload_n dX5_cell_5 rfl rfl) <|
  ac_cons (so_callV (N := M_X5_gridIn) (ci := 8) C_X5_gridIn rfl ⟨wd_525, wd_24, dy_X5_gridIn, ⟨by decide, by decide⟩, tb_X5_cell⟩ rfl dX5_cell_6 wd_522 wd_524 wd_5 rfl) <|
  ac_cons (so_astore dX5_cell_9 rfl) <|
  ac_cons (so_iload_n dX5_cell_11 rfl rfl) <|
  ac_cons (so_aload dX5_cell_12 rfl) <|
  ac_cons (so_getN (ci := 4) (f := 0) rfl in_X0 (by decide) dX5_cell_14 wd_232 rfl) <|
  ac_cons (so_alen (t := 4) (ty := .array .int) (fun _ => rfl) dX5_cell_17 rfl) <|
  ac_cons (so_callS (N := M_X5_requireIndex) C_X5_requireIndex rfl ⟨wd_413, wd_24, dy_X5_requireIndex, ⟨by decide, by decide⟩, tb_X5_cell⟩ dX5_cell_18 wd_411 wd_412 rfl) <|
  ac_cons (so_aload dX5_cell_21 rfl) <|
  ac_cons (so_getN (ci := 4) (f := 0) rfl in_X0 (by decide) dX5_cell_23 wd_232 rfl) <|
  ac_cons (so_iload_n dX5_cell_26 rfl rfl) <|
  ac_cons (so_aald4 dX5_cell_27 rfl) <|
  ac_cons (so_iload_n dX5_cell_28 rfl rfl) <|
  ac_cons (so_callS (N := M_X5_requireCell) C_X5_requireCell rfl ⟨wd_528, wd_24, dy_X5_requireCell, ⟨by decide, by decide⟩, tb_X5_cell⟩ dX5_cell_29 wd_526 wd_527 rfl) <|
  ac_cons (so_aload dX5_cell_32 rfl) <|
  ac_cons (so_getN (ci := 4) (f := 0) rfl in_X0 (by decide) dX5_cell_34 wd_232 rfl) <|
  ac_cons (so_iload_n dX5_cell_37 rfl rfl) <|
  ac_cons (so_aald4 dX5_cell_38 rfl) <|
  ac_cons (so_iload_n dX5_cell_39 rfl rfl) <|
  ac_cons (so_iald dX5_cell_40 rfl) <|
  ac_cons (so_ireturn rfl dX5_cell_41) <| ac_nil
theorem C_X5_cell : ac_Ct yX5_cell M_X5_cell T_X5_cell := ac_meth (by decide +kernel) rfl rfl rfl rfl s_X5_cell
-- X5_requireDivisor
abbrev rm_X5_requireDivisor : Room := { frames := 6, cells := 1, slots := 6, locals := 81 }
abbrev M_X5_requireDivisor : ac_D := (RX5, "requireDivisor", cX5_requireDivisor, 2, none, [], rm_X5_requireDivisor)
theorem tb_X5_requireDivisor : ac_tb RX5 [] := fun q h => (by cases h)
theorem dy_X5_requireDivisor : yX5_requireDivisor.cls ≠ "java/lang/invoke/MethodHandle" ∧ yX5_requireDivisor.cls ≠ "java/lang/invoke/VarHandle" ∧ (parseMethodDescriptor yX5_requireDivisor.desc).map (fun d => d.parameters.length) = some 1 := by decide +kernel
def k_X5_requireDivisor : List (Nat × ac_op) := [(0, op_lload 0 1),
  (1, op_push (.long 0) 2),
  (2, op_lcmp 3),
  (3, op_if (fun x => ¬ x = 0) 14 6),
  (6, op_throw rm_X5_requireDivisor 6),
  (14, op_return rm_X5_requireDivisor)]
def T_X5_requireDivisor : ac_T := ac_vc k_X5_requireDivisor 2
set_option maxRecDepth 100000 in
set_option maxHeartbeats 4000000 in
theorem s_X5_requireDivisor : ∀ x ∈ k_X5_requireDivisor, ac_So M_X5_requireDivisor (fun _ _ _ => False) x.1 x.2 :=
  ac_cons (so_lload_n dX5_requireDivisor_0 rfl rfl) <|
  ac_cons (so_lconst dX5_requireDivisor_1 (by decide +kernel) rfl) <|
  ac_cons (so_lcmp dX5_requireDivisor_2 rfl) <|
  ac_cons (so_if_ne dX5_requireDivisor_3 (by decide) rfl) <|
  ac_cons (so_throw (x := 6) (names := ["java/lang/RuntimeException", "java/lang/Exception"]) rfl (by decide +kernel) (by decide +kernel) (by decide +kernel) dX5_requireDivisor_6 dX5_requireDivisor_9 dX5_requireDivisor_10 dX5_requireDivisor_13 ⟨by decide, by decide⟩) <|
  ac_cons (so_return rfl dX5_requireDivisor_14) <| ac_nil
theorem C_X5_requireDivisor : ac_Ct yX5_requireDivisor M_X5_requireDivisor T_X5_requireDivisor := ac_meth (by decide +kernel) rfl rfl rfl rfl s_X5_requireDivisor
-- X5_setCell
abbrev rm_X5_setCell : Room := { frames := 10, cells := 11, slots := 478, locals := 10286 }
abbrev M_X5_setCell : ac_D := (RX5, "setCell", cX5_setCell, 7, none, [], rm_X5_setCell)
theorem tb_X5_setCell : ac_tb RX5 [] := fun q h => (by cases h)
theorem dy_X5_setCell : yX5_setCell.cls ≠ "java/lang/invoke/MethodHandle" ∧ yX5_setCell.cls ≠ "java/lang/invoke/VarHandle" ∧ (parseMethodDescriptor yX5_setCell.desc).map (fun d => d.parameters.length) = some 5 := by decide +kernel
def k_X5_setCell : List (Nat × ac_op) := [(0, op_iload 1 1),
  (1, op_callS rm_X5_setCell [] T_X5_requireRegister rm_X5_requireRegister 1 1 4),
  (4, op_aload 0 5),
  (5, op_iload 1 6),
  (6, op_callV rm_X5_setCell [] 8 T_X5_gridIn rm_X5_gridIn 1 6 9),
  (9, op_astore 6 11),
  (11, op_iload 2 12),
  (12, op_aload 6 14),
  (14, op_get 4 0 17),
  (17, op_alen 4 18),
  (18, op_callS rm_X5_setCell [] T_X5_requireIndex rm_X5_requireIndex 2 18 21),
  (21, op_iload 5 23),
  (23, op_i (fun x => .long x.toInt64) 24),
  (24, op_callS rm_X5_setCell [] T_X5_requireDivisor rm_X5_requireDivisor 1 24 27),
  (27, op_aload 6 29),
  (29, op_get 4 0 32),
  (32, op_iload 2 33),
  (33, op_aald 4 34),
  (34, op_iload 3 35),
  (35, op_callS rm_X5_setCell [] T_X5_requireCell rm_X5_requireCell 2 35 38),
  (38, op_aload 6 40),
  (40, op_get 4 0 43),
  (43, op_iload 2 44),
  (44, op_aald 4 45),
  (45, op_iload 3 46),
  (46, op_iload 4 48),
  (48, op_iload 5 50),
  (50, op_idiv 51),
  (51, op_iast 52),
  (52, op_return rm_X5_setCell)]
def T_X5_setCell : ac_T := ac_vc k_X5_setCell 7
set_option maxRecDepth 100000 in
set_option maxHeartbeats 4000000 in
theorem s_X5_setCell : ∀ x ∈ k_X5_setCell, ac_So M_X5_setCell (fun _ _ _ => False) x.1 x.2 :=
  ac_cons (so_iload_n dX5_setCell_0 rfl rfl) <|
  ac_cons (so_callS (N := M_X5_requireRegister) C_X5_requireRegister rfl ⟨wd_158, wd_24, dy_X5_requireRegister, ⟨by decide, by decide⟩, tb_X5_setCell⟩ dX5_setCell_1 wd_156 wd_157 rfl) <|
  ac_cons (so_aload_n dX5_setCell_4 rfl rfl) <|
  ac_cons (so_iload_n dX5_setCell_5 rfl rfl) <|
  ac_cons (so_callV (N := M_X5_gridIn) (ci := 8) C_X5_gridIn rfl ⟨wd_525, wd_24, dy_X5_gridIn, ⟨by decide, by decide⟩, tb_X5_setCell⟩ rfl dX5_setCell_6 wd_522 wd_524 wd_5 rfl) <|
  ac_cons (so_astore dX5_setCell_9 rfl) <|
  ac_cons (so_iload_n dX5_setCell_11 rfl rfl) <|
  ac_cons (so_aload dX5_setCell_12 rfl) <|
  ac_cons (so_getN (ci := 4) (f := 0) rfl in_X0 (by decide) dX5_setCell_14 wd_232 rfl) <|
  ac_cons (so_alen (t := 4) (ty := .array .int) (fun _ => rfl) dX5_setCell_17 rfl) <|
  ac_cons (so_callS (N := M_X5_requireIndex) C_X5_requireIndex rfl ⟨wd_413, wd_24, dy_X5_requireIndex, ⟨by decide, by decide⟩, tb_X5_setCell⟩ dX5_setCell_18 wd_411 wd_412 rfl) <|
  ac_cons (so_iload dX5_setCell_21 rfl) <|
  ac_cons (so_i2l dX5_setCell_23 rfl) <|
  ac_cons (so_callS (N := M_X5_requireDivisor) C_X5_requireDivisor rfl ⟨wd_552, wd_24, dy_X5_requireDivisor, ⟨by decide, by decide⟩, tb_X5_setCell⟩ dX5_setCell_24 wd_550 wd_551 rfl) <|
  ac_cons (so_aload dX5_setCell_27 rfl) <|
  ac_cons (so_getN (ci := 4) (f := 0) rfl in_X0 (by decide) dX5_setCell_29 wd_232 rfl) <|
  ac_cons (so_iload_n dX5_setCell_32 rfl rfl) <|
  ac_cons (so_aald4 dX5_setCell_33 rfl) <|
  ac_cons (so_iload_n dX5_setCell_34 rfl rfl) <|
  ac_cons (so_callS (N := M_X5_requireCell) C_X5_requireCell rfl ⟨wd_528, wd_24, dy_X5_requireCell, ⟨by decide, by decide⟩, tb_X5_setCell⟩ dX5_setCell_35 wd_526 wd_527 rfl) <|
  ac_cons (so_aload dX5_setCell_38 rfl) <|
  ac_cons (so_getN (ci := 4) (f := 0) rfl in_X0 (by decide) dX5_setCell_40 wd_232 rfl) <|
  ac_cons (so_iload_n dX5_setCell_43 rfl rfl) <|
  ac_cons (so_aald4 dX5_setCell_44 rfl) <|
  ac_cons (so_iload_n dX5_setCell_45 rfl rfl) <|
  ac_cons (so_iload dX5_setCell_46 rfl) <|
  ac_cons (so_iload dX5_setCell_48 rfl) <|
  ac_cons (so_idiv dX5_setCell_50 rfl) <|
  ac_cons (so_iast dX5_setCell_51 rfl) <|
  ac_cons (so_return rfl dX5_setCell_52) <| ac_nil
theorem C_X5_setCell : ac_Ct yX5_setCell M_X5_setCell T_X5_setCell := ac_meth (by decide +kernel) rfl rfl rfl rfl s_X5_setCell
-- X5_refer
abbrev rm_X5_refer : Room := { frames := 10, cells := 8, slots := 256, locals := 10285 }
abbrev M_X5_refer : ac_D := (RX5, "refer", cX5_refer, 6, none, [], rm_X5_refer)
theorem tb_X5_refer : ac_tb RX5 [] := fun q h => (by cases h)
theorem dy_X5_refer : yX5_refer.cls ≠ "java/lang/invoke/MethodHandle" ∧ yX5_refer.cls ≠ "java/lang/invoke/VarHandle" ∧ (parseMethodDescriptor yX5_refer.desc).map (fun d => d.parameters.length) = some 3 := by decide +kernel
def k_X5_refer : List (Nat × ac_op) := [(0, op_iload 1 1),
  (1, op_callS rm_X5_refer [] T_X5_requireRegister rm_X5_requireRegister 1 1 4),
  (4, op_iload 3 5),
  (5, op_callS rm_X5_refer [] T_X5_requireRegister rm_X5_requireRegister 1 5 8),
  (8, op_aload 0 9),
  (9, op_iload 1 10),
  (10, op_callV rm_X5_refer [] 8 T_X5_itemIn rm_X5_itemIn 1 10 13),
  (13, op_astore 4 15),
  (15, op_aload 4 17),
  (17, op_callU rm_X5_refer [] [(4, T_X0_sort, rm_X0_sort), (5, T_X2_sort, rm_X2_sort), (6, T_X3_sort, rm_X3_sort), (7, T_X4_sort, rm_X4_sort)] 0 17 20),
  (20, op_push (.int 8) 22),
  (22, op_icmp (fun x y => ¬ x = y) 29 25),
  (25, op_push (.int 1) 26),
  (26, op_goto 30),
  (29, op_push (.int 0) 30),
  (30, op_callS rm_X5_refer [] T_X5_requireSupported rm_X5_requireSupported 1 30 33),
  (33, op_aload 4 35),
  (35, op_iload 2 36),
  (36, op_callS rm_X5_refer [] T_X5_placeOf rm_X5_placeOf 2 36 39),
  (39, op_istore 5 41),
  (41, op_aload 4 43),
  (43, op_callU rm_X5_refer [] [(4, T_X1_ground, rm_X1_ground), (5, T_X1_ground, rm_X1_ground), (6, T_X3_ground, rm_X3_ground), (7, T_X4_ground, rm_X4_ground)] 0 43 46),
  (46, op_get 6 2 49),
  (49, op_iload 5 51),
  (51, op_aload 0 52),
  (52, op_get 8 0 55),
  (55, op_iload 3 56),
  (56, op_aald 3 57),
  (57, op_aast 3 58),
  (58, op_return rm_X5_refer)]
def T_X5_refer : ac_T := ac_vc k_X5_refer 6
set_option maxRecDepth 100000 in
set_option maxHeartbeats 4000000 in
theorem s_X5_refer : ∀ x ∈ k_X5_refer, ac_So M_X5_refer (fun _ _ _ => False) x.1 x.2 :=
  ac_cons (so_iload_n dX5_refer_0 rfl rfl) <|
  ac_cons (so_callS (N := M_X5_requireRegister) C_X5_requireRegister rfl ⟨wd_158, wd_24, dy_X5_requireRegister, ⟨by decide, by decide⟩, tb_X5_refer⟩ dX5_refer_1 wd_156 wd_157 rfl) <|
  ac_cons (so_iload_n dX5_refer_4 rfl rfl) <|
  ac_cons (so_callS (N := M_X5_requireRegister) C_X5_requireRegister rfl ⟨wd_158, wd_24, dy_X5_requireRegister, ⟨by decide, by decide⟩, tb_X5_refer⟩ dX5_refer_5 wd_156 wd_157 rfl) <|
  ac_cons (so_aload_n dX5_refer_8 rfl rfl) <|
  ac_cons (so_iload_n dX5_refer_9 rfl rfl) <|
  ac_cons (so_callV (N := M_X5_itemIn) (ci := 8) C_X5_itemIn rfl ⟨wd_290, wd_24, dy_X5_itemIn, ⟨by decide, by decide⟩, tb_X5_refer⟩ rfl dX5_refer_10 wd_287 wd_289 wd_3 rfl) <|
  ac_cons (so_astore dX5_refer_13 rfl) <|
  ac_cons (so_aload dX5_refer_15 rfl) <|
  ac_cons (so_callU (M := M_X5_refer) (x := ⟨"TypedHall$Item", "sort", "()I"⟩) (ac_cons4 (⟨yX0_sort, M_X0_sort, _, C_X0_sort, rfl, rfl, ⟨wd_486, wd_34, dy_X0_sort, ⟨by decide, by decide⟩, tb_X5_refer⟩, rfl, wd_485, wd_484⟩) (⟨yX2_sort, M_X2_sort, _, C_X2_sort, rfl, rfl, ⟨wd_489, wd_35, dy_X2_sort, ⟨by decide, by decide⟩, tb_X5_refer⟩, rfl, wd_488, wd_487⟩) (⟨yX3_sort, M_X3_sort, _, C_X3_sort, rfl, rfl, ⟨wd_492, wd_33, dy_X3_sort, ⟨by decide, by decide⟩, tb_X5_refer⟩, rfl, wd_491, wd_490⟩) (⟨yX4_sort, M_X4_sort, _, C_X4_sort, rfl, rfl, ⟨wd_495, wd_39, dy_X4_sort, ⟨by decide, by decide⟩, tb_X5_refer⟩, rfl, wd_494, wd_493⟩)) (Or.inr wd_482) wd_483 ⟨by decide, by decide, by decide +kernel⟩ dX5_refer_17 wd_481 rfl) <|
  ac_cons (so_bipush dX5_refer_20 (by decide +kernel) rfl) <|
  ac_cons (so_icmp_ne dX5_refer_22 (by decide) rfl) <|
  ac_cons (so_iconst dX5_refer_25 (by decide +kernel) rfl) <|
  ac_cons (so_goto dX5_refer_26 (by decide)) <|
  ac_cons (so_iconst dX5_refer_29 (by decide +kernel) rfl) <|
  ac_cons (so_callS (N := M_X5_requireSupported) C_X5_requireSupported rfl ⟨wd_308, wd_24, dy_X5_requireSupported, ⟨by decide, by decide⟩, tb_X5_refer⟩ dX5_refer_30 wd_306 wd_307 rfl) <|
  ac_cons (so_aload dX5_refer_33 rfl) <|
  ac_cons (so_iload_n dX5_refer_35 rfl rfl) <|
  ac_cons (so_callS (N := M_X5_placeOf) C_X5_placeOf rfl ⟨wd_501, wd_24, dy_X5_placeOf, ⟨by decide, by decide⟩, tb_X5_refer⟩ dX5_refer_36 wd_499 wd_500 rfl) <|
  ac_cons (so_istore dX5_refer_39 rfl) <|
  ac_cons (so_aload dX5_refer_41 rfl) <|
  ac_cons (so_callU (M := M_X5_refer) (x := ⟨"TypedHall$Item", "ground", "()LTypedHall$VectorItem;"⟩) (ac_cons4 (⟨yX1_ground, M_X1_ground, _, C_X1_ground, rfl, rfl, ⟨wd_305, wd_32, dy_X1_ground, ⟨by decide, by decide⟩, tb_X5_refer⟩, rfl, wd_295, wd_297⟩) (⟨yX1_ground, M_X1_ground, _, C_X1_ground, rfl, rfl, ⟨wd_305, wd_32, dy_X1_ground, ⟨by decide, by decide⟩, tb_X5_refer⟩, rfl, wd_295, wd_298⟩) (⟨yX3_ground, M_X3_ground, _, C_X3_ground, rfl, rfl, ⟨wd_301, wd_33, dy_X3_ground, ⟨by decide, by decide⟩, tb_X5_refer⟩, rfl, wd_300, wd_299⟩) (⟨yX4_ground, M_X4_ground, _, C_X4_ground, rfl, rfl, ⟨wd_304, wd_39, dy_X4_ground, ⟨by decide, by decide⟩, tb_X5_refer⟩, rfl, wd_303, wd_302⟩)) (Or.inl ⟨wd_295, _, _, _, wd_305⟩) wd_296 ⟨by decide, by decide, by decide +kernel⟩ dX5_refer_43 wd_294 rfl) <|
  ac_cons (so_getN (ci := 6) (f := 2) rfl in_X3 (by decide) dX5_refer_46 wd_202 rfl) <|
  ac_cons (so_iload dX5_refer_49 rfl) <|
  ac_cons (so_aload_n dX5_refer_51 rfl rfl) <|
  ac_cons (so_get (ci := 8) (f := 0) rfl in_X5 (by decide) dX5_refer_52 wd_56 rfl) <|
  ac_cons (so_iload_n dX5_refer_55 rfl rfl) <|
  ac_cons (so_aald3 dX5_refer_56 rfl) <|
  ac_cons (so_aast3 dX5_refer_57 rfl) <|
  ac_cons (so_return rfl dX5_refer_58) <| ac_nil
theorem C_X5_refer : ac_Ct yX5_refer M_X5_refer T_X5_refer := ac_meth (by decide +kernel) rfl rfl rfl rfl s_X5_refer
-- X5_fetch
abbrev rm_X5_fetch : Room := { frames := 10, cells := 8, slots := 256, locals := 10285 }
abbrev M_X5_fetch : ac_D := (RX5, "fetch", cX5_fetch, 7, some FieldType.int, [], rm_X5_fetch)
theorem tb_X5_fetch : ac_tb RX5 [] := fun q h => (by cases h)
theorem dy_X5_fetch : yX5_fetch.cls ≠ "java/lang/invoke/MethodHandle" ∧ yX5_fetch.cls ≠ "java/lang/invoke/VarHandle" ∧ (parseMethodDescriptor yX5_fetch.desc).map (fun d => d.parameters.length) = some 3 := by decide +kernel
def k_X5_fetch : List (Nat × ac_op) := [(0, op_iload 1 1),
  (1, op_callS rm_X5_fetch [] T_X5_requireRegister rm_X5_requireRegister 1 1 4),
  (4, op_iload 2 5),
  (5, op_callS rm_X5_fetch [] T_X5_requireRegister rm_X5_requireRegister 1 5 8),
  (8, op_aload 0 9),
  (9, op_iload 2 10),
  (10, op_callV rm_X5_fetch [] 8 T_X5_itemIn rm_X5_itemIn 1 10 13),
  (13, op_astore 4 15),
  (15, op_aload 4 17),
  (17, op_callU rm_X5_fetch [] [(4, T_X0_sort, rm_X0_sort), (5, T_X2_sort, rm_X2_sort), (6, T_X3_sort, rm_X3_sort), (7, T_X4_sort, rm_X4_sort)] 0 17 20),
  (20, op_push (.int 8) 22),
  (22, op_icmp (fun x y => ¬ x = y) 29 25),
  (25, op_push (.int 1) 26),
  (26, op_goto 30),
  (29, op_push (.int 0) 30),
  (30, op_callS rm_X5_fetch [] T_X5_requireSupported rm_X5_requireSupported 1 30 33),
  (33, op_aload 4 35),
  (35, op_iload 3 36),
  (36, op_callS rm_X5_fetch [] T_X5_placeOf rm_X5_placeOf 2 36 39),
  (39, op_istore 5 41),
  (41, op_aload 4 43),
  (43, op_callU rm_X5_fetch [] [(4, T_X1_ground, rm_X1_ground), (5, T_X1_ground, rm_X1_ground), (6, T_X3_ground, rm_X3_ground), (7, T_X4_ground, rm_X4_ground)] 0 43 46),
  (46, op_get 6 2 49),
  (49, op_iload 5 51),
  (51, op_aald 3 52),
  (52, op_astore 6 54),
  (54, op_aload 0 55),
  (55, op_get 8 0 58),
  (58, op_iload 1 59),
  (59, op_aload 6 61),
  (61, op_aast 3 62),
  (62, op_aload 6 64),
  (64, op_ifnonnull 71 67),
  (67, op_push (.int (-1)) 68),
  (68, op_goto 76),
  (71, op_aload 6 73),
  (73, op_callU rm_X5_fetch [] [(4, T_X0_sort, rm_X0_sort), (5, T_X2_sort, rm_X2_sort), (6, T_X3_sort, rm_X3_sort), (7, T_X4_sort, rm_X4_sort)] 0 73 76),
  (76, op_ireturn rm_X5_fetch)]
def T_X5_fetch : ac_T := ac_vc k_X5_fetch 7
set_option maxRecDepth 100000 in
set_option maxHeartbeats 4000000 in
theorem s_X5_fetch : ∀ x ∈ k_X5_fetch, ac_So M_X5_fetch (fun _ _ _ => False) x.1 x.2 :=
  ac_cons (so_iload_n dX5_fetch_0 rfl rfl) <|
  ac_cons (so_callS (N := M_X5_requireRegister) C_X5_requireRegister rfl ⟨wd_158, wd_24, dy_X5_requireRegister, ⟨by decide, by decide⟩, tb_X5_fetch⟩ dX5_fetch_1 wd_156 wd_157 rfl) <|
  ac_cons (so_iload_n dX5_fetch_4 rfl rfl) <|
  ac_cons (so_callS (N := M_X5_requireRegister) C_X5_requireRegister rfl ⟨wd_158, wd_24, dy_X5_requireRegister, ⟨by decide, by decide⟩, tb_X5_fetch⟩ dX5_fetch_5 wd_156 wd_157 rfl) <|
  ac_cons (so_aload_n dX5_fetch_8 rfl rfl) <|
  ac_cons (so_iload_n dX5_fetch_9 rfl rfl) <|
  ac_cons (so_callV (N := M_X5_itemIn) (ci := 8) C_X5_itemIn rfl ⟨wd_290, wd_24, dy_X5_itemIn, ⟨by decide, by decide⟩, tb_X5_fetch⟩ rfl dX5_fetch_10 wd_287 wd_289 wd_3 rfl) <|
  ac_cons (so_astore dX5_fetch_13 rfl) <|
  ac_cons (so_aload dX5_fetch_15 rfl) <|
  ac_cons (so_callU (M := M_X5_fetch) (x := ⟨"TypedHall$Item", "sort", "()I"⟩) (ac_cons4 (⟨yX0_sort, M_X0_sort, _, C_X0_sort, rfl, rfl, ⟨wd_486, wd_34, dy_X0_sort, ⟨by decide, by decide⟩, tb_X5_fetch⟩, rfl, wd_485, wd_484⟩) (⟨yX2_sort, M_X2_sort, _, C_X2_sort, rfl, rfl, ⟨wd_489, wd_35, dy_X2_sort, ⟨by decide, by decide⟩, tb_X5_fetch⟩, rfl, wd_488, wd_487⟩) (⟨yX3_sort, M_X3_sort, _, C_X3_sort, rfl, rfl, ⟨wd_492, wd_33, dy_X3_sort, ⟨by decide, by decide⟩, tb_X5_fetch⟩, rfl, wd_491, wd_490⟩) (⟨yX4_sort, M_X4_sort, _, C_X4_sort, rfl, rfl, ⟨wd_495, wd_39, dy_X4_sort, ⟨by decide, by decide⟩, tb_X5_fetch⟩, rfl, wd_494, wd_493⟩)) (Or.inr wd_482) wd_483 ⟨by decide, by decide, by decide +kernel⟩ dX5_fetch_17 wd_481 rfl) <|
  ac_cons (so_bipush dX5_fetch_20 (by decide +kernel) rfl) <|
  ac_cons (so_icmp_ne dX5_fetch_22 (by decide) rfl) <|
  ac_cons (so_iconst dX5_fetch_25 (by decide +kernel) rfl) <|
  ac_cons (so_goto dX5_fetch_26 (by decide)) <|
  ac_cons (so_iconst dX5_fetch_29 (by decide +kernel) rfl) <|
  ac_cons (so_callS (N := M_X5_requireSupported) C_X5_requireSupported rfl ⟨wd_308, wd_24, dy_X5_requireSupported, ⟨by decide, by decide⟩, tb_X5_fetch⟩ dX5_fetch_30 wd_306 wd_307 rfl) <|
  ac_cons (so_aload dX5_fetch_33 rfl) <|
  ac_cons (so_iload_n dX5_fetch_35 rfl rfl) <|
  ac_cons (so_callS (N := M_X5_placeOf) C_X5_placeOf rfl ⟨wd_501, wd_24, dy_X5_placeOf, ⟨by decide, by decide⟩, tb_X5_fetch⟩ dX5_fetch_36 wd_499 wd_500 rfl) <|
  ac_cons (so_istore dX5_fetch_39 rfl) <|
  ac_cons (so_aload dX5_fetch_41 rfl) <|
  ac_cons (so_callU (M := M_X5_fetch) (x := ⟨"TypedHall$Item", "ground", "()LTypedHall$VectorItem;"⟩) (ac_cons4 (⟨yX1_ground, M_X1_ground, _, C_X1_ground, rfl, rfl, ⟨wd_305, wd_32, dy_X1_ground, ⟨by decide, by decide⟩, tb_X5_fetch⟩, rfl, wd_295, wd_297⟩) (⟨yX1_ground, M_X1_ground, _, C_X1_ground, rfl, rfl, ⟨wd_305, wd_32, dy_X1_ground, ⟨by decide, by decide⟩, tb_X5_fetch⟩, rfl, wd_295, wd_298⟩) (⟨yX3_ground, M_X3_ground, _, C_X3_ground, rfl, rfl, ⟨wd_301, wd_33, dy_X3_ground, ⟨by decide, by decide⟩, tb_X5_fetch⟩, rfl, wd_300, wd_299⟩) (⟨yX4_ground, M_X4_ground, _, C_X4_ground, rfl, rfl, ⟨wd_304, wd_39, dy_X4_ground, ⟨by decide, by decide⟩, tb_X5_fetch⟩, rfl, wd_303, wd_302⟩)) (Or.inl ⟨wd_295, _, _, _, wd_305⟩) wd_296 ⟨by decide, by decide, by decide +kernel⟩ dX5_fetch_43 wd_294 rfl) <|
  ac_cons (so_getN (ci := 6) (f := 2) rfl in_X3 (by decide) dX5_fetch_46 wd_202 rfl) <|
  ac_cons (so_iload dX5_fetch_49 rfl) <|
  ac_cons (so_aald3 dX5_fetch_51 rfl) <|
  ac_cons (so_astore dX5_fetch_52 rfl) <|
  ac_cons (so_aload_n dX5_fetch_54 rfl rfl) <|
  ac_cons (so_get (ci := 8) (f := 0) rfl in_X5 (by decide) dX5_fetch_55 wd_56 rfl) <|
  ac_cons (so_iload_n dX5_fetch_58 rfl rfl) <|
  ac_cons (so_aload dX5_fetch_59 rfl) <|
  ac_cons (so_aast3 dX5_fetch_61 rfl) <|
  ac_cons (so_aload dX5_fetch_62 rfl) <|
  ac_cons (so_ifnonnull dX5_fetch_64 (by decide) rfl) <|
  ac_cons (so_iconst dX5_fetch_67 (by decide +kernel) rfl) <|
  ac_cons (so_goto dX5_fetch_68 (by decide)) <|
  ac_cons (so_aload dX5_fetch_71 rfl) <|
  ac_cons (so_callU (M := M_X5_fetch) (x := ⟨"TypedHall$Item", "sort", "()I"⟩) (ac_cons4 (⟨yX0_sort, M_X0_sort, _, C_X0_sort, rfl, rfl, ⟨wd_486, wd_34, dy_X0_sort, ⟨by decide, by decide⟩, tb_X5_fetch⟩, rfl, wd_485, wd_484⟩) (⟨yX2_sort, M_X2_sort, _, C_X2_sort, rfl, rfl, ⟨wd_489, wd_35, dy_X2_sort, ⟨by decide, by decide⟩, tb_X5_fetch⟩, rfl, wd_488, wd_487⟩) (⟨yX3_sort, M_X3_sort, _, C_X3_sort, rfl, rfl, ⟨wd_492, wd_33, dy_X3_sort, ⟨by decide, by decide⟩, tb_X5_fetch⟩, rfl, wd_491, wd_490⟩) (⟨yX4_sort, M_X4_sort, _, C_X4_sort, rfl, rfl, ⟨wd_495, wd_39, dy_X4_sort, ⟨by decide, by decide⟩, tb_X5_fetch⟩, rfl, wd_494, wd_493⟩)) (Or.inr wd_482) wd_483 ⟨by decide, by decide, by decide +kernel⟩ dX5_fetch_73 wd_481 rfl) <|
  ac_cons (so_ireturn rfl dX5_fetch_76) <| ac_nil
theorem C_X5_fetch : ac_Ct yX5_fetch M_X5_fetch T_X5_fetch := ac_meth (by decide +kernel) rfl rfl rfl rfl s_X5_fetch
-- X5_recordOrNone
abbrev rm_X5_recordOrNone : Room := { frames := 7, cells := 1, slots := 6, locals := 101 }
abbrev M_X5_recordOrNone : ac_D := (RX5, "recordOrNone", cX5_recordOrNone, 5, some (FieldType.object "TypedHall$RecordItem"), [], rm_X5_recordOrNone)
theorem tb_X5_recordOrNone : ac_tb RX5 [] := fun q h => (by cases h)
theorem dy_X5_recordOrNone : yX5_recordOrNone.cls ≠ "java/lang/invoke/MethodHandle" ∧ yX5_recordOrNone.cls ≠ "java/lang/invoke/VarHandle" ∧ (parseMethodDescriptor yX5_recordOrNone.desc).map (fun d => d.parameters.length) = some 1 := by decide +kernel
def k_X5_recordOrNone : List (Nat × ac_op) := [(0, op_aload 0 1),
  (1, op_get 8 0 4),
  (4, op_iload 1 5),
  (5, op_aald 3 6),
  (6, op_astore 2 7),
  (7, op_aload 2 8),
  (8, op_inst 5 11),
  (11, op_if (fun x => x = 0) 25 14),
  (14, op_aload 2 15),
  (15, op_cast 5 18),
  (18, op_astore 4 20),
  (20, op_aload 4 22),
  (22, op_goto 26),
  (25, op_push .null 26),
  (26, op_astore 3 27),
  (27, op_aload 2 28),
  (28, op_ifnull 35 31),
  (31, op_aload 3 32),
  (32, op_ifnull 39 35),
  (35, op_push (.int 1) 36),
  (36, op_goto 40),
  (39, op_push (.int 0) 40),
  (40, op_callS rm_X5_recordOrNone [] T_X5_requireSupported rm_X5_requireSupported 1 40 43),
  (43, op_aload 3 44),
  (44, op_areturn rm_X5_recordOrNone)]
def T_X5_recordOrNone : ac_T := ac_vc k_X5_recordOrNone 5
set_option maxRecDepth 100000 in
set_option maxHeartbeats 4000000 in
theorem s_X5_recordOrNone : ∀ x ∈ k_X5_recordOrNone, ac_So M_X5_recordOrNone (fun _ _ _ => False) x.1 x.2 :=
  ac_cons (so_aload_n dX5_recordOrNone_0 rfl rfl) <|
  ac_cons (so_get (ci := 8) (f := 0) rfl in_X5 (by decide) dX5_recordOrNone_1 wd_56 rfl) <|
  ac_cons (so_iload_n dX5_recordOrNone_4 rfl rfl) <|
  ac_cons (so_aald3 dX5_recordOrNone_5 rfl) <|
  ac_cons (so_astore_n dX5_recordOrNone_6 rfl rfl) <|
  ac_cons (so_aload_n dX5_recordOrNone_7 rfl rfl) <|
  ac_cons (so_inst (ci := 5) (by decide) rfl dX5_recordOrNone_8 wd_243 rfl) <|
  ac_cons (so_if_eq dX5_recordOrNone_11 (by decide) rfl) <|
  ac_cons (so_aload_n dX5_recordOrNone_14 rfl rfl) <|
  ac_cons (so_cast (ci := 5) rfl dX5_recordOrNone_15 wd_243 rfl) <|
  ac_cons (so_astore dX5_recordOrNone_18 rfl) <|
  ac_cons (so_aload dX5_recordOrNone_20 rfl) <|
  ac_cons (so_goto dX5_recordOrNone_22 (by decide)) <|
  ac_cons (so_null dX5_recordOrNone_25 rfl) <|
  ac_cons (so_astore_n dX5_recordOrNone_26 rfl rfl) <|
  ac_cons (so_aload_n dX5_recordOrNone_27 rfl rfl) <|
  ac_cons (so_ifnull dX5_recordOrNone_28 (by decide) rfl) <|
  ac_cons (so_aload_n dX5_recordOrNone_31 rfl rfl) <|
  ac_cons (so_ifnull dX5_recordOrNone_32 (by decide) rfl) <|
  ac_cons (so_iconst dX5_recordOrNone_35 (by decide +kernel) rfl) <|
  ac_cons (so_goto dX5_recordOrNone_36 (by decide)) <|
  ac_cons (so_iconst dX5_recordOrNone_39 (by decide +kernel) rfl) <|
  ac_cons (so_callS (N := M_X5_requireSupported) C_X5_requireSupported rfl ⟨wd_308, wd_24, dy_X5_requireSupported, ⟨by decide, by decide⟩, tb_X5_recordOrNone⟩ dX5_recordOrNone_40 wd_306 wd_307 rfl) <|
  ac_cons (so_aload_n dX5_recordOrNone_43 rfl rfl) <|
  ac_cons (so_areturn rfl (by first | exact Or.inl ⟨_, rfl⟩ | exact Or.inr ⟨_, rfl⟩) dX5_recordOrNone_44) <| ac_nil
theorem C_X5_recordOrNone : ac_Ct yX5_recordOrNone M_X5_recordOrNone T_X5_recordOrNone := ac_meth (by decide +kernel) rfl rfl rfl rfl s_X5_recordOrNone
-- X5_recordIn
abbrev rm_X5_recordIn : Room := { frames := 9, cells := 2, slots := 14, locals := 10262 }
abbrev M_X5_recordIn : ac_D := (RX5, "recordIn", cX5_recordIn, 3, some (FieldType.object "TypedHall$RecordItem"), [], rm_X5_recordIn)
theorem tb_X5_recordIn : ac_tb RX5 [] := fun q h => (by cases h)
theorem dy_X5_recordIn : yX5_recordIn.cls ≠ "java/lang/invoke/MethodHandle" ∧ yX5_recordIn.cls ≠ "java/lang/invoke/VarHandle" ∧ (parseMethodDescriptor yX5_recordIn.desc).map (fun d => d.parameters.length) = some 1 := by decide +kernel
def k_X5_recordIn : List (Nat × ac_op) := [(0, op_aload 0 1),
  (1, op_iload 1 2),
  (2, op_callV rm_X5_recordIn [] 8 T_X5_recordOrNone rm_X5_recordOrNone 1 2 5),
  (5, op_astore 2 6),
  (6, op_aload 2 7),
  (7, op_ifnull 14 10),
  (10, op_push (.int 1) 11),
  (11, op_goto 15),
  (14, op_push (.int 0) 15),
  (15, op_callS rm_X5_recordIn [] T_X5_requirePresent rm_X5_requirePresent 1 15 18),
  (18, op_aload 2 19),
  (19, op_areturn rm_X5_recordIn)]
def T_X5_recordIn : ac_T := ac_vc k_X5_recordIn 3
set_option maxRecDepth 100000 in
set_option maxHeartbeats 4000000 in
theorem s_X5_recordIn : ∀ x ∈ k_X5_recordIn, ac_So M_X5_recordIn (fun _ _ _ => False) x.1 x.2 :=
  ac_cons (so_aload_n dX5_recordIn_0 rfl rfl) <|
  ac_cons (so_iload_n dX5_recordIn_1 rfl rfl) <|
  ac_cons (so_callV (N := M_X5_recordOrNone) (ci := 8) C_X5_recordOrNone rfl ⟨wd_582, wd_24, dy_X5_recordOrNone, ⟨by decide, by decide⟩, tb_X5_recordIn⟩ rfl dX5_recordIn_2 wd_579 wd_581 wd_6 rfl) <|
  ac_cons (so_astore_n dX5_recordIn_5 rfl rfl) <|
  ac_cons (so_aload_n dX5_recordIn_6 rfl rfl) <|
  ac_cons (so_ifnull dX5_recordIn_7 (by decide) rfl) <|
  ac_cons (so_iconst dX5_recordIn_10 (by decide +kernel) rfl) <|
  ac_cons (so_goto dX5_recordIn_11 (by decide)) <|
  ac_cons (so_iconst dX5_recordIn_14 (by decide +kernel) rfl) <|
  ac_cons (so_callS (N := M_X5_requirePresent) C_X5_requirePresent rfl ⟨wd_293, wd_24, dy_X5_requirePresent, ⟨by decide, by decide⟩, tb_X5_recordIn⟩ dX5_recordIn_15 wd_291 wd_292 rfl) <|
  ac_cons (so_aload_n dX5_recordIn_18 rfl rfl) <|
  ac_cons (so_areturn rfl (by first | exact Or.inl ⟨_, rfl⟩ | exact Or.inr ⟨_, rfl⟩) dX5_recordIn_19) <| ac_nil
theorem C_X5_recordIn : ac_Ct yX5_recordIn M_X5_recordIn T_X5_recordIn := ac_meth (by decide +kernel) rfl rfl rfl rfl s_X5_recordIn
-- X5_link
abbrev rm_X5_link : Room := { frames := 10, cells := 5, slots := 32, locals := 10284 }
abbrev M_X5_link : ac_D := (RX5, "link", cX5_link, 4, none, [], rm_X5_link)
theorem tb_X5_link : ac_tb RX5 [] := fun q h => (by cases h)
theorem dy_X5_link : yX5_link.cls ≠ "java/lang/invoke/MethodHandle" ∧ yX5_link.cls ≠ "java/lang/invoke/VarHandle" ∧ (parseMethodDescriptor yX5_link.desc).map (fun d => d.parameters.length) = some 2 := by decide +kernel
def k_X5_link : List (Nat × ac_op) := [(0, op_iload 1 1),
  (1, op_callS rm_X5_link [] T_X5_requireRegister rm_X5_requireRegister 1 1 4),
  (4, op_iload 2 5),
  (5, op_callS rm_X5_link [] T_X5_requireRegister rm_X5_requireRegister 1 5 8),
  (8, op_aload 0 9),
  (9, op_iload 2 10),
  (10, op_callV rm_X5_link [] 8 T_X5_recordOrNone rm_X5_recordOrNone 1 10 13),
  (13, op_astore 3 14),
  (14, op_aload 0 15),
  (15, op_iload 1 16),
  (16, op_callV rm_X5_link [] 8 T_X5_recordIn rm_X5_recordIn 1 16 19),
  (19, op_aload 3 20),
  (20, op_put 5 1 23),
  (23, op_return rm_X5_link)]
def T_X5_link : ac_T := ac_vc k_X5_link 4
set_option maxRecDepth 100000 in
set_option maxHeartbeats 4000000 in
theorem s_X5_link : ∀ x ∈ k_X5_link, ac_So M_X5_link (fun _ _ _ => False) x.1 x.2 :=
  ac_cons (so_iload_n dX5_link_0 rfl rfl) <|
  ac_cons (so_callS (N := M_X5_requireRegister) C_X5_requireRegister rfl ⟨wd_158, wd_24, dy_X5_requireRegister, ⟨by decide, by decide⟩, tb_X5_link⟩ dX5_link_1 wd_156 wd_157 rfl) <|
  ac_cons (so_iload_n dX5_link_4 rfl rfl) <|
  ac_cons (so_callS (N := M_X5_requireRegister) C_X5_requireRegister rfl ⟨wd_158, wd_24, dy_X5_requireRegister, ⟨by decide, by decide⟩, tb_X5_link⟩ dX5_link_5 wd_156 wd_157 rfl) <|
  ac_cons (so_aload_n dX5_link_8 rfl rfl) <|
  ac_cons (so_iload_n dX5_link_9 rfl rfl) <|
  ac_cons (so_callV (N := M_X5_recordOrNone) (ci := 8) C_X5_recordOrNone rfl ⟨wd_582, wd_24, dy_X5_recordOrNone, ⟨by decide, by decide⟩, tb_X5_link⟩ rfl dX5_link_10 wd_579 wd_581 wd_6 rfl) <|
  ac_cons (so_astore_n dX5_link_13 rfl rfl) <|
  ac_cons (so_aload_n dX5_link_14 rfl rfl) <|
  ac_cons (so_iload_n dX5_link_15 rfl rfl) <|
  ac_cons (so_callV (N := M_X5_recordIn) (ci := 8) C_X5_recordIn rfl ⟨wd_586, wd_24, dy_X5_recordIn, ⟨by decide, by decide⟩, tb_X5_link⟩ rfl dX5_link_16 wd_583 wd_585 wd_7 rfl) <|
  ac_cons (so_aload_n dX5_link_19 rfl rfl) <|
  ac_cons (so_putN (ci := 5) (f := 1) rfl in_X2 tyX2_ok nmX2 (by decide) rfl rfl dX5_link_20 wd_252 rfl) <|
  ac_cons (so_return rfl dX5_link_23) <| ac_nil
theorem C_X5_link : ac_Ct yX5_link M_X5_link T_X5_link := ac_meth (by decide +kernel) rfl rfl rfl rfl s_X5_link
-- X5_follow
abbrev rm_X5_follow : Room := { frames := 10, cells := 4, slots := 26, locals := 10284 }
abbrev M_X5_follow : ac_D := (RX5, "follow", cX5_follow, 4, some FieldType.boolean, [], rm_X5_follow)
theorem tb_X5_follow : ac_tb RX5 [] := fun q h => (by cases h)
theorem dy_X5_follow : yX5_follow.cls ≠ "java/lang/invoke/MethodHandle" ∧ yX5_follow.cls ≠ "java/lang/invoke/VarHandle" ∧ (parseMethodDescriptor yX5_follow.desc).map (fun d => d.parameters.length) = some 2 := by decide +kernel
def k_X5_follow : List (Nat × ac_op) := [(0, op_iload 1 1),
  (1, op_callS rm_X5_follow [] T_X5_requireRegister rm_X5_requireRegister 1 1 4),
  (4, op_iload 2 5),
  (5, op_callS rm_X5_follow [] T_X5_requireRegister rm_X5_requireRegister 1 5 8),
  (8, op_aload 0 9),
  (9, op_iload 2 10),
  (10, op_callV rm_X5_follow [] 8 T_X5_recordIn rm_X5_recordIn 1 10 13),
  (13, op_get 5 1 16),
  (16, op_astore 3 17),
  (17, op_aload 0 18),
  (18, op_get 8 0 21),
  (21, op_iload 1 22),
  (22, op_aload 3 23),
  (23, op_aast 3 24),
  (24, op_aload 3 25),
  (25, op_ifnonnull 32 28),
  (28, op_push (.int 1) 29),
  (29, op_goto 33),
  (32, op_push (.int 0) 33),
  (33, op_zreturn rm_X5_follow)]
def T_X5_follow : ac_T := ac_vc k_X5_follow 4
set_option maxRecDepth 100000 in
set_option maxHeartbeats 4000000 in
theorem s_X5_follow : ∀ x ∈ k_X5_follow, ac_So M_X5_follow (fun _ _ _ => False) x.1 x.2 :=
  ac_cons (so_iload_n dX5_follow_0 rfl rfl) <|
  ac_cons (so_callS (N := M_X5_requireRegister) C_X5_requireRegister rfl ⟨wd_158, wd_24, dy_X5_requireRegister, ⟨by decide, by decide⟩, tb_X5_follow⟩ dX5_follow_1 wd_156 wd_157 rfl) <|
  ac_cons (so_iload_n dX5_follow_4 rfl rfl) <|
  ac_cons (so_callS (N := M_X5_requireRegister) C_X5_requireRegister rfl ⟨wd_158, wd_24, dy_X5_requireRegister, ⟨by decide, by decide⟩, tb_X5_follow⟩ dX5_follow_5 wd_156 wd_157 rfl) <|
  ac_cons (so_aload_n dX5_follow_8 rfl rfl) <|
  ac_cons (so_iload_n dX5_follow_9 rfl rfl) <|
  ac_cons (so_callV (N := M_X5_recordIn) (ci := 8) C_X5_recordIn rfl ⟨wd_586, wd_24, dy_X5_recordIn, ⟨by decide, by decide⟩, tb_X5_follow⟩ rfl dX5_follow_10 wd_583 wd_585 wd_7 rfl) <|
  ac_cons (so_getN (ci := 5) (f := 1) rfl in_X2 (by decide) dX5_follow_13 wd_252 rfl) <|
  ac_cons (so_astore_n dX5_follow_16 rfl rfl) <|
  ac_cons (so_aload_n dX5_follow_17 rfl rfl) <|
  ac_cons (so_get (ci := 8) (f := 0) rfl in_X5 (by decide) dX5_follow_18 wd_56 rfl) <|
  ac_cons (so_iload_n dX5_follow_21 rfl rfl) <|
  ac_cons (so_aload_n dX5_follow_22 rfl rfl) <|
  ac_cons (so_aast3 dX5_follow_23 rfl) <|
  ac_cons (so_aload_n dX5_follow_24 rfl rfl) <|
  ac_cons (so_ifnonnull dX5_follow_25 (by decide) rfl) <|
  ac_cons (so_iconst dX5_follow_28 (by decide +kernel) rfl) <|
  ac_cons (so_goto dX5_follow_29 (by decide)) <|
  ac_cons (so_iconst dX5_follow_32 (by decide +kernel) rfl) <|
  ac_cons (so_zreturn rfl dX5_follow_33) <| ac_nil
theorem C_X5_follow : ac_Ct yX5_follow M_X5_follow T_X5_follow := ac_meth (by decide +kernel) rfl rfl rfl rfl s_X5_follow
-- X5_exchange
abbrev rm_X5_exchange : Room := { frames := 10, cells := 3, slots := 20, locals := 10284 }
abbrev M_X5_exchange : ac_D := (RX5, "exchange", cX5_exchange, 7, some FieldType.long, [], rm_X5_exchange)
theorem tb_X5_exchange : ac_tb RX5 [] := fun q h => (by cases h)
theorem dy_X5_exchange : yX5_exchange.cls ≠ "java/lang/invoke/MethodHandle" ∧ yX5_exchange.cls ≠ "java/lang/invoke/VarHandle" ∧ (parseMethodDescriptor yX5_exchange.desc).map (fun d => d.parameters.length) = some 2 := by decide +kernel
def k_X5_exchange : List (Nat × ac_op) := [(0, op_iload 1 1),
  (1, op_callS rm_X5_exchange [] T_X5_requireRegister rm_X5_requireRegister 1 1 4),
  (4, op_aload 0 5),
  (5, op_iload 1 6),
  (6, op_callV rm_X5_exchange [] 8 T_X5_recordIn rm_X5_recordIn 1 6 9),
  (9, op_astore 4 11),
  (11, op_aload 4 13),
  (13, op_get 5 0 16),
  (16, op_lstore 5 18),
  (18, op_aload 4 20),
  (20, op_lload 2 21),
  (21, op_put 5 0 24),
  (24, op_lload 5 26),
  (26, op_lreturn rm_X5_exchange)]
def T_X5_exchange : ac_T := ac_vc k_X5_exchange 7
set_option maxRecDepth 100000 in
set_option maxHeartbeats 4000000 in
theorem s_X5_exchange : ∀ x ∈ k_X5_exchange, ac_So M_X5_exchange (fun _ _ _ => False) x.1 x.2 :=
  ac_cons (so_iload_n dX5_exchange_0 rfl rfl) <|
  ac_cons (so_callS (N := M_X5_requireRegister) C_X5_requireRegister rfl ⟨wd_158, wd_24, dy_X5_requireRegister, ⟨by decide, by decide⟩, tb_X5_exchange⟩ dX5_exchange_1 wd_156 wd_157 rfl) <|
  ac_cons (so_aload_n dX5_exchange_4 rfl rfl) <|
  ac_cons (so_iload_n dX5_exchange_5 rfl rfl) <|
  ac_cons (so_callV (N := M_X5_recordIn) (ci := 8) C_X5_recordIn rfl ⟨wd_586, wd_24, dy_X5_recordIn, ⟨by decide, by decide⟩, tb_X5_exchange⟩ rfl dX5_exchange_6 wd_583 wd_585 wd_7 rfl) <|
  ac_cons (so_astore dX5_exchange_9 rfl) <|
  ac_cons (so_aload dX5_exchange_11 rfl) <|
  ac_cons (so_getN (ci := 5) (f := 0) rfl in_X2 (by decide) dX5_exchange_13 wd_250 rfl) <|
  ac_cons (so_lstore dX5_exchange_16 rfl) <|
  ac_cons (so_aload dX5_exchange_18 rfl) <|
  ac_cons (so_lload_n dX5_exchange_20 rfl rfl) <|
  ac_cons (so_putN (ci := 5) (f := 0) rfl in_X2 tyX2_ok nmX2 (by decide) rfl rfl dX5_exchange_21 wd_250 rfl) <|
  ac_cons (so_lload dX5_exchange_24 rfl) <|
  ac_cons (so_lreturn rfl dX5_exchange_26) <| ac_nil
theorem C_X5_exchange : ac_Ct yX5_exchange M_X5_exchange T_X5_exchange := ac_meth (by decide +kernel) rfl rfl rfl rfl s_X5_exchange
-- X5_total
abbrev rm_X5_total : Room := { frames := 10, cells := 3, slots := 20, locals := 10284 }
abbrev M_X5_total : ac_D := (RX5, "total", cX5_total, 6, some FieldType.long, [], rm_X5_total)
theorem tb_X5_total : ac_tb RX5 [] := fun q h => (by cases h)
theorem dy_X5_total : yX5_total.cls ≠ "java/lang/invoke/MethodHandle" ∧ yX5_total.cls ≠ "java/lang/invoke/VarHandle" ∧ (parseMethodDescriptor yX5_total.desc).map (fun d => d.parameters.length) = some 1 := by decide +kernel
def k_X5_total : List (Nat × ac_op) := [(0, op_iload 1 1),
  (1, op_callS rm_X5_total [] T_X5_requireRegister rm_X5_requireRegister 1 1 4),
  (4, op_aload 0 5),
  (5, op_iload 1 6),
  (6, op_callV rm_X5_total [] 8 T_X5_recordIn rm_X5_recordIn 1 6 9),
  (9, op_astore 2 10),
  (10, op_push (.long 0) 11),
  (11, op_lstore 3 12),
  (12, op_push (.int 0) 13),
  (13, op_istore 5 15),
  (15, op_iload 5 17),
  (17, op_push (.int 20) 19),
  (19, op_icmp (fun x y => y ≤ x) 44 22),
  (22, op_aload 2 23),
  (23, op_ifnull 44 26),
  (26, op_lload 3 27),
  (27, op_aload 2 28),
  (28, op_get 5 0 31),
  (31, op_ll (fun x y => x + y) 32),
  (32, op_lstore 3 33),
  (33, op_aload 2 34),
  (34, op_get 5 1 37),
  (37, op_astore 2 38),
  (38, op_iinc 5 1 41),
  (41, op_goto 15),
  (44, op_lload 3 45),
  (45, op_lreturn rm_X5_total)]
def T_X5_total : ac_T := ac_vc k_X5_total 6
set_option maxRecDepth 100000 in
set_option maxHeartbeats 4000000 in
theorem s_X5_total : ∀ x ∈ k_X5_total, ac_So M_X5_total (fun _ _ _ => False) x.1 x.2 :=
  ac_cons (so_iload_n dX5_total_0 rfl rfl) <|
  ac_cons (so_callS (N := M_X5_requireRegister) C_X5_requireRegister rfl ⟨wd_158, wd_24, dy_X5_requireRegister, ⟨by decide, by decide⟩, tb_X5_total⟩ dX5_total_1 wd_156 wd_157 rfl) <|
  ac_cons (so_aload_n dX5_total_4 rfl rfl) <|
  ac_cons (so_iload_n dX5_total_5 rfl rfl) <|
  ac_cons (so_callV (N := M_X5_recordIn) (ci := 8) C_X5_recordIn rfl ⟨wd_586, wd_24, dy_X5_recordIn, ⟨by decide, by decide⟩, tb_X5_total⟩ rfl dX5_total_6 wd_583 wd_585 wd_7 rfl) <|
  ac_cons (so_astore_n dX5_total_9 rfl rfl) <|
  ac_cons (so_lconst dX5_total_10 (by decide +kernel) rfl) <|
  ac_cons (so_lstore_n dX5_total_11 rfl rfl) <|
  ac_cons (so_iconst dX5_total_12 (by decide +kernel) rfl) <|
  ac_cons (so_istore dX5_total_13 rfl) <|
  ac_cons (so_iload dX5_total_15 rfl) <|
  ac_cons (so_bipush dX5_total_17 (by decide +kernel) rfl) <|
  ac_cons (so_icmp_ge dX5_total_19 (by decide) rfl) <|
  ac_cons (so_aload_n dX5_total_22 rfl rfl) <|
  ac_cons (so_ifnull dX5_total_23 (by decide) rfl) <|
  ac_cons (so_lload_n dX5_total_26 rfl rfl) <|
  ac_cons (so_aload_n dX5_total_27 rfl rfl) <|
  ac_cons (so_getN (ci := 5) (f := 0) rfl in_X2 (by decide) dX5_total_28 wd_250 rfl) <|
  ac_cons (so_ladd dX5_total_31 rfl) <|
  ac_cons (so_lstore_n dX5_total_32 rfl rfl) <|
  ac_cons (so_aload_n dX5_total_33 rfl rfl) <|
  ac_cons (so_getN (ci := 5) (f := 1) rfl in_X2 (by decide) dX5_total_34 wd_252 rfl) <|
  ac_cons (so_astore_n dX5_total_37 rfl rfl) <|
  ac_cons (so_iinc dX5_total_38 (by decide +kernel) rfl) <|
  ac_cons (so_goto dX5_total_41 (by decide)) <|
  ac_cons (so_lload_n dX5_total_44 rfl rfl) <|
  ac_cons (so_lreturn rfl dX5_total_45) <| ac_nil
theorem C_X5_total : ac_Ct yX5_total M_X5_total T_X5_total := ac_meth (by decide +kernel) rfl rfl rfl rfl s_X5_total
-- X5_reckon
abbrev rm_X5_reckon : Room := { frames := 7, cells := 2, slots := 12, locals := 102 }
abbrev M_X5_reckon : ac_D := (RX5, "reckon", cX5_reckon, 5, some FieldType.long, [], rm_X5_reckon)
theorem tb_X5_reckon : ac_tb RX5 [] := fun q h => (by cases h)
theorem dy_X5_reckon : yX5_reckon.cls ≠ "java/lang/invoke/MethodHandle" ∧ yX5_reckon.cls ≠ "java/lang/invoke/VarHandle" ∧ (parseMethodDescriptor yX5_reckon.desc).map (fun d => d.parameters.length) = some 3 := by decide +kernel
def k_X5_reckon : List (Nat × ac_op) := [(0, op_iload 0 1),
  (1, op_switch 52 [32, 36, 40, 44]),
  (32, op_lload 1 33),
  (33, op_lload 3 34),
  (34, op_ll (fun x y => x + y) 35),
  (35, op_lreturn rm_X5_reckon),
  (36, op_lload 1 37),
  (37, op_lload 3 38),
  (38, op_ll (fun x y => x - y) 39),
  (39, op_lreturn rm_X5_reckon),
  (40, op_lload 1 41),
  (41, op_lload 3 42),
  (42, op_ll (fun x y => x * y) 43),
  (43, op_lreturn rm_X5_reckon),
  (44, op_lload 3 45),
  (45, op_callS rm_X5_reckon [] T_X5_requireDivisor rm_X5_requireDivisor 1 45 48),
  (48, op_lload 1 49),
  (49, op_lload 3 50),
  (50, op_ldiv 51),
  (51, op_lreturn rm_X5_reckon),
  (52, op_lload 3 53),
  (53, op_callS rm_X5_reckon [] T_X5_requireDivisor rm_X5_requireDivisor 1 53 56),
  (56, op_lload 1 57),
  (57, op_lload 3 58),
  (58, op_lrem 59),
  (59, op_lreturn rm_X5_reckon)]
def T_X5_reckon : ac_T := ac_vc k_X5_reckon 5
set_option maxRecDepth 100000 in
set_option maxHeartbeats 4000000 in
theorem s_X5_reckon : ∀ x ∈ k_X5_reckon, ac_So M_X5_reckon (fun _ _ _ => False) x.1 x.2 :=
  ac_cons (so_iload_n dX5_reckon_0 rfl rfl) <|
  ac_cons (so_switch dX5_reckon_1 (by decide) (by decide) (by decide) (by decide)) <|
  ac_cons (so_lload_n dX5_reckon_32 rfl rfl) <|
  ac_cons (so_lload_n dX5_reckon_33 rfl rfl) <|
  ac_cons (so_ladd dX5_reckon_34 rfl) <|
  ac_cons (so_lreturn rfl dX5_reckon_35) <|
  ac_cons (so_lload_n dX5_reckon_36 rfl rfl) <|
  ac_cons (so_lload_n dX5_reckon_37 rfl rfl) <|
  ac_cons (so_lsub dX5_reckon_38 rfl) <|
  ac_cons (so_lreturn rfl dX5_reckon_39) <|
  ac_cons (so_lload_n dX5_reckon_40 rfl rfl) <|
  ac_cons (so_lload_n dX5_reckon_41 rfl rfl) <|
  ac_cons (so_lmul dX5_reckon_42 rfl) <|
  ac_cons (so_lreturn rfl dX5_reckon_43) <|
  ac_cons (so_lload_n dX5_reckon_44 rfl rfl) <|
  ac_cons (so_callS (N := M_X5_requireDivisor) C_X5_requireDivisor rfl ⟨wd_552, wd_24, dy_X5_requireDivisor, ⟨by decide, by decide⟩, tb_X5_reckon⟩ dX5_reckon_45 wd_550 wd_551 rfl) <|
  ac_cons (so_lload_n dX5_reckon_48 rfl rfl) <|
  ac_cons (so_lload_n dX5_reckon_49 rfl rfl) <|
  ac_cons (so_ldiv dX5_reckon_50 rfl) <|
  ac_cons (so_lreturn rfl dX5_reckon_51) <|
  ac_cons (so_lload_n dX5_reckon_52 rfl rfl) <|
  ac_cons (so_callS (N := M_X5_requireDivisor) C_X5_requireDivisor rfl ⟨wd_552, wd_24, dy_X5_requireDivisor, ⟨by decide, by decide⟩, tb_X5_reckon⟩ dX5_reckon_53 wd_550 wd_551 rfl) <|
  ac_cons (so_lload_n dX5_reckon_56 rfl rfl) <|
  ac_cons (so_lload_n dX5_reckon_57 rfl rfl) <|
  ac_cons (so_lrem dX5_reckon_58 rfl) <|
  ac_cons (so_lreturn rfl dX5_reckon_59) <| ac_nil
theorem C_X5_reckon : ac_Ct yX5_reckon M_X5_reckon T_X5_reckon := ac_meth (by decide +kernel) rfl rfl rfl rfl s_X5_reckon
-- X5_combine
abbrev rm_X5_combine : Room := { frames := 11, cells := 20, slots := 742, locals := 10310 }
abbrev M_X5_combine : ac_D := (RX5, "combine", cX5_combine, 15, some FieldType.long, [], rm_X5_combine)
theorem tb_X5_combine : ac_tb RX5 [] := fun q h => (by cases h)
theorem dy_X5_combine : yX5_combine.cls ≠ "java/lang/invoke/MethodHandle" ∧ yX5_combine.cls ≠ "java/lang/invoke/VarHandle" ∧ (parseMethodDescriptor yX5_combine.desc).map (fun d => d.parameters.length) = some 5 := by decide +kernel
def k_X5_combine : List (Nat × ac_op) := [(0, op_iload 1 1),
  (1, op_if (fun x => x < 0) 13 4),
  (4, op_iload 1 5),
  (5, op_push (.int 4) 6),
  (6, op_icmp (fun x y => y < x) 13 9),
  (9, op_push (.int 1) 10),
  (10, op_goto 14),
  (13, op_push (.int 0) 14),
  (14, op_callS rm_X5_combine [] T_X5_requireArgument rm_X5_requireArgument 1 14 17),
  (17, op_iload 2 18),
  (18, op_callS rm_X5_combine [] T_X5_requireRegister rm_X5_requireRegister 1 18 21),
  (21, op_iload 4 23),
  (23, op_callS rm_X5_combine [] T_X5_requireRegister rm_X5_requireRegister 1 23 26),
  (26, op_aload 0 27),
  (27, op_iload 2 28),
  (28, op_callV rm_X5_combine [] 8 T_X5_itemIn rm_X5_itemIn 1 28 31),
  (31, op_astore 6 33),
  (33, op_aload 0 34),
  (34, op_iload 4 36),
  (36, op_callV rm_X5_combine [] 8 T_X5_itemIn rm_X5_itemIn 1 36 39),
  (39, op_astore 7 41),
  (41, op_aload 6 43),
  (43, op_callU rm_X5_combine [] [(4, T_X0_sort, rm_X0_sort), (5, T_X2_sort, rm_X2_sort), (6, T_X3_sort, rm_X3_sort), (7, T_X4_sort, rm_X4_sort)] 0 43 46),
  (46, op_push (.int 5) 47),
  (47, op_icmp (fun x y => y < x) 63 50),
  (50, op_aload 7 52),
  (52, op_callU rm_X5_combine [] [(4, T_X0_sort, rm_X0_sort), (5, T_X2_sort, rm_X2_sort), (6, T_X3_sort, rm_X3_sort), (7, T_X4_sort, rm_X4_sort)] 0 52 55),
  (55, op_push (.int 5) 56),
  (56, op_icmp (fun x y => y < x) 63 59),
  (59, op_push (.int 1) 60),
  (60, op_goto 64),
  (63, op_push (.int 0) 64),
  (64, op_callS rm_X5_combine [] T_X5_requireSupported rm_X5_requireSupported 1 64 67),
  (67, op_aload 6 69),
  (69, op_iload 3 70),
  (70, op_callS rm_X5_combine [] T_X5_takeElement rm_X5_takeElement 2 70 73),
  (73, op_lstore 8 75),
  (75, op_aload 7 77),
  (77, op_iload 5 79),
  (79, op_callS rm_X5_combine [] T_X5_takeElement rm_X5_takeElement 2 79 82),
  (82, op_lstore 10 84),
  (84, op_iload 1 85),
  (85, op_lload 8 87),
  (87, op_lload 10 89),
  (89, op_callS rm_X5_combine [] T_X5_reckon rm_X5_reckon 3 89 92),
  (92, op_lstore 12 94),
  (94, op_aload 6 96),
  (96, op_callU rm_X5_combine [] [(4, T_X0_sort, rm_X0_sort), (5, T_X2_sort, rm_X2_sort), (6, T_X3_sort, rm_X3_sort), (7, T_X4_sort, rm_X4_sort)] 0 96 99),
  (99, op_push (.int 5) 100),
  (100, op_icmp (fun x y => y ≤ x) 116 103),
  (103, op_aload 7 105),
  (105, op_callU rm_X5_combine [] [(4, T_X0_sort, rm_X0_sort), (5, T_X2_sort, rm_X2_sort), (6, T_X3_sort, rm_X3_sort), (7, T_X4_sort, rm_X4_sort)] 0 105 108),
  (108, op_push (.int 5) 109),
  (109, op_icmp (fun x y => y ≤ x) 116 112),
  (112, op_push (.int 1) 113),
  (113, op_goto 117),
  (116, op_push (.int 0) 117),
  (117, op_istore 14 119),
  (119, op_aload 6 121),
  (121, op_iload 3 122),
  (122, op_iload 14 124),
  (124, op_if (fun x => x = 0) 134 127),
  (127, op_lload 12 129),
  (129, op_l (fun x => .int x.toInt32) 130),
  (130, op_i (fun x => .long x.toInt64) 131),
  (131, op_goto 136),
  (134, op_lload 12 136),
  (136, op_callS rm_X5_combine [] T_X5_putElement rm_X5_putElement 3 136 139),
  (139, op_lreturn rm_X5_combine)]
def T_X5_combine : ac_T := ac_vc k_X5_combine 15
set_option maxRecDepth 100000 in
set_option maxHeartbeats 4000000 in
theorem s_X5_combine : ∀ x ∈ k_X5_combine, ac_So M_X5_combine (fun _ _ _ => False) x.1 x.2 :=
  ac_cons (so_iload_n dX5_combine_0 rfl rfl) <|
  ac_cons (so_if_lt dX5_combine_1 (by decide) rfl) <|
  ac_cons (so_iload_n dX5_combine_4 rfl rfl) <|
  ac_cons (so_iconst dX5_combine_5 (by decide +kernel) rfl) <|
  ac_cons (so_icmp_gt dX5_combine_6 (by decide) rfl) <|
  ac_cons (so_iconst dX5_combine_9 (by decide +kernel) rfl) <|
  ac_cons (so_goto dX5_combine_10 (by decide)) <|
  ac_cons (so_iconst dX5_combine_13 (by decide +kernel) rfl) <|
  ac_cons (so_callS (N := M_X5_requireArgument) C_X5_requireArgument rfl ⟨wd_161, wd_24, dy_X5_requireArgument, ⟨by decide, by decide⟩, tb_X5_combine⟩ dX5_combine_14 wd_159 wd_160 rfl) <|
  ac_cons (so_iload_n dX5_combine_17 rfl rfl) <|
  ac_cons (so_callS (N := M_X5_requireRegister) C_X5_requireRegister rfl ⟨wd_158, wd_24, dy_X5_requireRegister, ⟨by decide, by decide⟩, tb_X5_combine⟩ dX5_combine_18 wd_156 wd_157 rfl) <|
  ac_cons (so_iload dX5_combine_21 rfl) <|
  ac_cons (so_callS (N := M_X5_requireRegister) C_X5_requireRegister rfl ⟨wd_158, wd_24, dy_X5_requireRegister, ⟨by decide, by decide⟩, tb_X5_combine⟩ dX5_combine_23 wd_156 wd_157 rfl) <|
  ac_cons (so_aload_n dX5_combine_26 rfl rfl) <|
  ac_cons (so_iload_n dX5_combine_27 rfl rfl) <|
  ac_cons (so_callV (N := M_X5_itemIn) (ci := 8) C_X5_itemIn rfl ⟨wd_290, wd_24, dy_X5_itemIn, ⟨by decide, by decide⟩, tb_X5_combine⟩ rfl dX5_combine_28 wd_287 wd_289 wd_3 rfl) <|
  ac_cons (so_astore dX5_combine_31 rfl) <|
  ac_cons (so_aload_n dX5_combine_33 rfl rfl) <|
  ac_cons (so_iload dX5_combine_34 rfl) <|
  ac_cons (so_callV (N := M_X5_itemIn) (ci := 8) C_X5_itemIn rfl ⟨wd_290, wd_24, dy_X5_itemIn, ⟨by decide, by decide⟩, tb_X5_combine⟩ rfl dX5_combine_36 wd_287 wd_289 wd_3 rfl) <|
  ac_cons (so_astore dX5_combine_39 rfl) <|
  ac_cons (so_aload dX5_combine_41 rfl) <|
  ac_cons (so_callU (M := M_X5_combine) (x := ⟨"TypedHall$Item", "sort", "()I"⟩) (ac_cons4 (⟨yX0_sort, M_X0_sort, _, C_X0_sort, rfl, rfl, ⟨wd_486, wd_34, dy_X0_sort, ⟨by decide, by decide⟩, tb_X5_combine⟩, rfl, wd_485, wd_484⟩) (⟨yX2_sort, M_X2_sort, _, C_X2_sort, rfl, rfl, ⟨wd_489, wd_35, dy_X2_sort, ⟨by decide, by decide⟩, tb_X5_combine⟩, rfl, wd_488, wd_487⟩) (⟨yX3_sort, M_X3_sort, _, C_X3_sort, rfl, rfl, ⟨wd_492, wd_33, dy_X3_sort, ⟨by decide, by decide⟩, tb_X5_combine⟩, rfl, wd_491, wd_490⟩) (⟨yX4_sort, M_X4_sort, _, C_X4_sort, rfl, rfl, ⟨wd_495, wd_39, dy_X4_sort, ⟨by decide, by decide⟩, tb_X5_combine⟩, rfl, wd_494, wd_493⟩)) (Or.inr wd_482) wd_483 ⟨by decide, by decide, by decide +kernel⟩ dX5_combine_43 wd_481 rfl) <|
  ac_cons (so_iconst dX5_combine_46 (by decide +kernel) rfl) <|
  ac_cons (so_icmp_gt dX5_combine_47 (by decide) rfl) <|
  ac_cons (so_aload dX5_combine_50 rfl) <|
  ac_cons (so_callU (M := M_X5_combine) (x := ⟨"TypedHall$Item", "sort", "()I"⟩) (ac_cons4 (⟨yX0_sort, M_X0_sort, _, C_X0_sort, rfl, rfl, ⟨wd_486, wd_34, dy_X0_sort, ⟨by decide, by decide⟩, tb_X5_combine⟩, rfl, wd_485, wd_484⟩) (⟨yX2_sort, M_X2_sort, _, C_X2_sort, rfl, rfl, ⟨wd_489, wd_35, dy_X2_sort, ⟨by decide, by decide⟩, tb_X5_combine⟩, rfl, wd_488, wd_487⟩) (⟨yX3_sort, M_X3_sort, _, C_X3_sort, rfl, rfl, ⟨wd_492, wd_33, dy_X3_sort, ⟨by decide, by decide⟩, tb_X5_combine⟩, rfl, wd_491, wd_490⟩) (⟨yX4_sort, M_X4_sort, _, C_X4_sort, rfl, rfl, ⟨wd_495, wd_39, dy_X4_sort, ⟨by decide, by decide⟩, tb_X5_combine⟩, rfl, wd_494, wd_493⟩)) (Or.inr wd_482) wd_483 ⟨by decide, by decide, by decide +kernel⟩ dX5_combine_52 wd_481 rfl) <|
  ac_cons (so_iconst dX5_combine_55 (by decide +kernel) rfl) <|
  ac_cons (so_icmp_gt dX5_combine_56 (by decide) rfl) <|
  ac_cons (so_iconst dX5_combine_59 (by decide +kernel) rfl) <|
  ac_cons (so_goto dX5_combine_60 (by decide)) <|
  ac_cons (so_iconst dX5_combine_63 (by decide +kernel) rfl) <|
  ac_cons (so_callS (N := M_X5_requireSupported) C_X5_requireSupported rfl ⟨wd_308, wd_24, dy_X5_requireSupported, ⟨by decide, by decide⟩, tb_X5_combine⟩ dX5_combine_64 wd_306 wd_307 rfl) <|
  ac_cons (so_aload dX5_combine_67 rfl) <|
  ac_cons (so_iload_n dX5_combine_69 rfl rfl) <|
  ac_cons (so_callS (N := M_X5_takeElement) C_X5_takeElement rfl ⟨wd_498, wd_24, dy_X5_takeElement, ⟨by decide, by decide⟩, tb_X5_combine⟩ dX5_combine_70 wd_496 wd_497 rfl) <|
  ac_cons (so_lstore dX5_combine_73 rfl) <|
  ac_cons (so_aload dX5_combine_75 rfl) <|
  ac_cons (so_iload dX5_combine_77 rfl) <|
  ac_cons (so_callS (N := M_X5_takeElement) C_X5_takeElement rfl ⟨wd_498, wd_24, dy_X5_takeElement, ⟨by decide, by decide⟩, tb_X5_combine⟩ dX5_combine_79 wd_496 wd_497 rfl) <|
  ac_cons (so_lstore dX5_combine_82 rfl) <|
  ac_cons (so_iload_n dX5_combine_84 rfl rfl) <|
  ac_cons (so_lload dX5_combine_85 rfl) <|
  ac_cons (so_lload dX5_combine_87 rfl) <|
  ac_cons (so_callS (N := M_X5_reckon) C_X5_reckon rfl ⟨wd_617, wd_24, dy_X5_reckon, ⟨by decide, by decide⟩, tb_X5_combine⟩ dX5_combine_89 wd_615 wd_616 rfl) <|
  ac_cons (so_lstore dX5_combine_92 rfl) <|
  ac_cons (so_aload dX5_combine_94 rfl) <|
  ac_cons (so_callU (M := M_X5_combine) (x := ⟨"TypedHall$Item", "sort", "()I"⟩) (ac_cons4 (⟨yX0_sort, M_X0_sort, _, C_X0_sort, rfl, rfl, ⟨wd_486, wd_34, dy_X0_sort, ⟨by decide, by decide⟩, tb_X5_combine⟩, rfl, wd_485, wd_484⟩) (⟨yX2_sort, M_X2_sort, _, C_X2_sort, rfl, rfl, ⟨wd_489, wd_35, dy_X2_sort, ⟨by decide, by decide⟩, tb_X5_combine⟩, rfl, wd_488, wd_487⟩) (⟨yX3_sort, M_X3_sort, _, C_X3_sort, rfl, rfl, ⟨wd_492, wd_33, dy_X3_sort, ⟨by decide, by decide⟩, tb_X5_combine⟩, rfl, wd_491, wd_490⟩) (⟨yX4_sort, M_X4_sort, _, C_X4_sort, rfl, rfl, ⟨wd_495, wd_39, dy_X4_sort, ⟨by decide, by decide⟩, tb_X5_combine⟩, rfl, wd_494, wd_493⟩)) (Or.inr wd_482) wd_483 ⟨by decide, by decide, by decide +kernel⟩ dX5_combine_96 wd_481 rfl) <|
  ac_cons (so_iconst dX5_combine_99 (by decide +kernel) rfl) <|
  ac_cons (so_icmp_ge dX5_combine_100 (by decide) rfl) <|
  ac_cons (so_aload dX5_combine_103 rfl) <|
  ac_cons (so_callU (M := M_X5_combine) (x := ⟨"TypedHall$Item", "sort", "()I"⟩) (ac_cons4 (⟨yX0_sort, M_X0_sort, _, C_X0_sort, rfl, rfl, ⟨wd_486, wd_34, dy_X0_sort, ⟨by decide, by decide⟩, tb_X5_combine⟩, rfl, wd_485, wd_484⟩) (⟨yX2_sort, M_X2_sort, _, C_X2_sort, rfl, rfl, ⟨wd_489, wd_35, dy_X2_sort, ⟨by decide, by decide⟩, tb_X5_combine⟩, rfl, wd_488, wd_487⟩) (⟨yX3_sort, M_X3_sort, _, C_X3_sort, rfl, rfl, ⟨wd_492, wd_33, dy_X3_sort, ⟨by decide, by decide⟩, tb_X5_combine⟩, rfl, wd_491, wd_490⟩) (⟨yX4_sort, M_X4_sort, _, C_X4_sort, rfl, rfl, ⟨wd_495, wd_39, dy_X4_sort, ⟨by decide, by decide⟩, tb_X5_combine⟩, rfl, wd_494, wd_493⟩)) (Or.inr wd_482) wd_483 ⟨by decide, by decide, by decide +kernel⟩ dX5_combine_105 wd_481 rfl) <|
  ac_cons (so_iconst dX5_combine_108 (by decide +kernel) rfl) <|
  ac_cons (so_icmp_ge dX5_combine_109 (by decide) rfl) <|
  ac_cons (so_iconst dX5_combine_112 (by decide +kernel) rfl) <|
  ac_cons (so_goto dX5_combine_113 (by decide)) <|
  ac_cons (so_iconst dX5_combine_116 (by decide +kernel) rfl) <|
  ac_cons (so_istore dX5_combine_117 rfl) <|
  ac_cons (so_aload dX5_combine_119 rfl) <|
  ac_cons (so_iload_n dX5_combine_121 rfl rfl) <|
  ac_cons (so_iload dX5_combine_122 rfl) <|
  ac_cons (so_if_eq dX5_combine_124 (by decide) rfl) <|
  ac_cons (so_lload dX5_combine_127 rfl) <|
  ac_cons (so_l2i dX5_combine_129 rfl) <|
  ac_cons (so_i2l dX5_combine_130 rfl) <|
  ac_cons (so_goto dX5_combine_131 (by decide)) <|
  ac_cons (so_lload dX5_combine_134 rfl) <|
  ac_cons (so_callS (N := M_X5_putElement) C_X5_putElement rfl ⟨wd_511, wd_24, dy_X5_putElement, ⟨by decide, by decide⟩, tb_X5_combine⟩ dX5_combine_136 wd_509 wd_510 rfl) <|
  ac_cons (so_lreturn rfl dX5_combine_139) <| ac_nil
theorem C_X5_combine : ac_Ct yX5_combine M_X5_combine T_X5_combine := ac_meth (by decide +kernel) rfl rfl rfl rfl s_X5_combine
-- X5_move
abbrev rm_X5_move : Room := { frames := 11, cells := 198, slots := 11080, locals := 10310 }
abbrev M_X5_move : ac_D := (RX5, "move", cX5_move, 11, some FieldType.int, [], rm_X5_move)
theorem tb_X5_move : ac_tb RX5 [] := fun q h => (by cases h)
theorem dy_X5_move : yX5_move.cls ≠ "java/lang/invoke/MethodHandle" ∧ yX5_move.cls ≠ "java/lang/invoke/VarHandle" ∧ (parseMethodDescriptor yX5_move.desc).map (fun d => d.parameters.length) = some 5 := by decide +kernel
def k_X5_move : List (Nat × ac_op) := [(0, op_iload 1 1),
  (1, op_callS rm_X5_move [] T_X5_requireRegister rm_X5_requireRegister 1 1 4),
  (4, op_iload 3 5),
  (5, op_callS rm_X5_move [] T_X5_requireRegister rm_X5_requireRegister 1 5 8),
  (8, op_iload 5 10),
  (10, op_if (fun x => x < 0) 24 13),
  (13, op_iload 5 15),
  (15, op_push (.int 24) 17),
  (17, op_icmp (fun x y => y < x) 24 20),
  (20, op_push (.int 1) 21),
  (21, op_goto 25),
  (24, op_push (.int 0) 25),
  (25, op_callS rm_X5_move [] T_X5_requireArgument rm_X5_requireArgument 1 25 28),
  (28, op_aload 0 29),
  (29, op_iload 1 30),
  (30, op_callV rm_X5_move [] 8 T_X5_itemIn rm_X5_itemIn 1 30 33),
  (33, op_astore 6 35),
  (35, op_aload 0 36),
  (36, op_iload 3 37),
  (37, op_callV rm_X5_move [] 8 T_X5_itemIn rm_X5_itemIn 1 37 40),
  (40, op_astore 7 42),
  (42, op_aload 6 44),
  (44, op_callU rm_X5_move [] [(4, T_X0_sort, rm_X0_sort), (5, T_X2_sort, rm_X2_sort), (6, T_X3_sort, rm_X3_sort), (7, T_X4_sort, rm_X4_sort)] 0 44 47),
  (47, op_push (.int 7) 49),
  (49, op_icmp (fun x y => y < x) 66 52),
  (52, op_aload 7 54),
  (54, op_callU rm_X5_move [] [(4, T_X0_sort, rm_X0_sort), (5, T_X2_sort, rm_X2_sort), (6, T_X3_sort, rm_X3_sort), (7, T_X4_sort, rm_X4_sort)] 0 54 57),
  (57, op_push (.int 7) 59),
  (59, op_icmp (fun x y => y < x) 66 62),
  (62, op_push (.int 1) 63),
  (63, op_goto 67),
  (66, op_push (.int 0) 67),
  (67, op_callS rm_X5_move [] T_X5_requireSupported rm_X5_requireSupported 1 67 70),
  (70, op_push (.int 0) 71),
  (71, op_istore 8 73),
  (73, op_iload 8 75),
  (75, op_iload 5 77),
  (77, op_icmp (fun x y => y ≤ x) 110 80),
  (80, op_aload 7 82),
  (82, op_iload 4 84),
  (84, op_iload 8 86),
  (86, op_ii (fun x y => x + y) 87),
  (87, op_callS rm_X5_move [] T_X5_takeElement rm_X5_takeElement 2 87 90),
  (90, op_lstore 9 92),
  (92, op_aload 6 94),
  (94, op_iload 2 95),
  (95, op_iload 8 97),
  (97, op_ii (fun x y => x + y) 98),
  (98, op_lload 9 100),
  (100, op_callS rm_X5_move [] T_X5_putElement rm_X5_putElement 3 100 103),
  (103, op_pop2 104),
  (104, op_iinc 8 1 107),
  (107, op_goto 73),
  (110, op_iload 5 112),
  (112, op_ireturn rm_X5_move)]
def T_X5_move : ac_T := ac_vc k_X5_move 11
set_option maxRecDepth 100000 in
set_option maxHeartbeats 4000000 in
theorem s_X5_move : ∀ x ∈ k_X5_move, ac_So M_X5_move (fun _ _ _ => False) x.1 x.2 :=
  ac_cons (so_iload_n dX5_move_0 rfl rfl) <|
  ac_cons (so_callS (N := M_X5_requireRegister) C_X5_requireRegister rfl ⟨wd_158, wd_24, dy_X5_requireRegister, ⟨by decide, by decide⟩, tb_X5_move⟩ dX5_move_1 wd_156 wd_157 rfl) <|
  ac_cons (so_iload_n dX5_move_4 rfl rfl) <|
  ac_cons (so_callS (N := M_X5_requireRegister) C_X5_requireRegister rfl ⟨wd_158, wd_24, dy_X5_requireRegister, ⟨by decide, by decide⟩, tb_X5_move⟩ dX5_move_5 wd_156 wd_157 rfl) <|
  ac_cons (so_iload dX5_move_8 rfl) <|
  ac_cons (so_if_lt dX5_move_10 (by decide) rfl) <|
  ac_cons (so_iload dX5_move_13 rfl) <|
  ac_cons (so_bipush dX5_move_15 (by decide +kernel) rfl) <|
  ac_cons (so_icmp_gt dX5_move_17 (by decide) rfl) <|
  ac_cons (so_iconst dX5_move_20 (by decide +kernel) rfl) <|
  ac_cons (so_goto dX5_move_21 (by decide)) <|
  ac_cons (so_iconst dX5_move_24 (by decide +kernel) rfl) <|
  ac_cons (so_callS (N := M_X5_requireArgument) C_X5_requireArgument rfl ⟨wd_161, wd_24, dy_X5_requireArgument, ⟨by decide, by decide⟩, tb_X5_move⟩ dX5_move_25 wd_159 wd_160 rfl) <|
  ac_cons (so_aload_n dX5_move_28 rfl rfl) <|
  ac_cons (so_iload_n dX5_move_29 rfl rfl) <|
  ac_cons (so_callV (N := M_X5_itemIn) (ci := 8) C_X5_itemIn rfl ⟨wd_290, wd_24, dy_X5_itemIn, ⟨by decide, by decide⟩, tb_X5_move⟩ rfl dX5_move_30 wd_287 wd_289 wd_3 rfl) <|
  ac_cons (so_astore dX5_move_33 rfl) <|
  ac_cons (so_aload_n dX5_move_35 rfl rfl) <|
  ac_cons (so_iload_n dX5_move_36 rfl rfl) <|
  ac_cons (so_callV (N := M_X5_itemIn) (ci := 8) C_X5_itemIn rfl ⟨wd_290, wd_24, dy_X5_itemIn, ⟨by decide, by decide⟩, tb_X5_move⟩ rfl dX5_move_37 wd_287 wd_289 wd_3 rfl) <|
  ac_cons (so_astore dX5_move_40 rfl) <|
  ac_cons (so_aload dX5_move_42 rfl) <|
  ac_cons (so_callU (M := M_X5_move) (x := ⟨"TypedHall$Item", "sort", "()I"⟩) (ac_cons4 (⟨yX0_sort, M_X0_sort, _, C_X0_sort, rfl, rfl, ⟨wd_486, wd_34, dy_X0_sort, ⟨by decide, by decide⟩, tb_X5_move⟩, rfl, wd_485, wd_484⟩) (⟨yX2_sort, M_X2_sort, _, C_X2_sort, rfl, rfl, ⟨wd_489, wd_35, dy_X2_sort, ⟨by decide, by decide⟩, tb_X5_move⟩, rfl, wd_488, wd_487⟩) (⟨yX3_sort, M_X3_sort, _, C_X3_sort, rfl, rfl, ⟨wd_492, wd_33, dy_X3_sort, ⟨by decide, by decide⟩, tb_X5_move⟩, rfl, wd_491, wd_490⟩) (⟨yX4_sort, M_X4_sort, _, C_X4_sort, rfl, rfl, ⟨wd_495, wd_39, dy_X4_sort, ⟨by decide, by decide⟩, tb_X5_move⟩, rfl, wd_494, wd_493⟩)) (Or.inr wd_482) wd_483 ⟨by decide, by decide, by decide +kernel⟩ dX5_move_44 wd_481 rfl) <|
  ac_cons (so_bipush dX5_move_47 (by decide +kernel) rfl) <|
  ac_cons (so_icmp_gt dX5_move_49 (by decide) rfl) <|
  ac_cons (so_aload dX5_move_52 rfl) <|
  ac_cons (so_callU (M := M_X5_move) (x := ⟨"TypedHall$Item", "sort", "()I"⟩) (ac_cons4 (⟨yX0_sort, M_X0_sort, _, C_X0_sort, rfl, rfl, ⟨wd_486, wd_34, dy_X0_sort, ⟨by decide, by decide⟩, tb_X5_move⟩, rfl, wd_485, wd_484⟩) (⟨yX2_sort, M_X2_sort, _, C_X2_sort, rfl, rfl, ⟨wd_489, wd_35, dy_X2_sort, ⟨by decide, by decide⟩, tb_X5_move⟩, rfl, wd_488, wd_487⟩) (⟨yX3_sort, M_X3_sort, _, C_X3_sort, rfl, rfl, ⟨wd_492, wd_33, dy_X3_sort, ⟨by decide, by decide⟩, tb_X5_move⟩, rfl, wd_491, wd_490⟩) (⟨yX4_sort, M_X4_sort, _, C_X4_sort, rfl, rfl, ⟨wd_495, wd_39, dy_X4_sort, ⟨by decide, by decide⟩, tb_X5_move⟩, rfl, wd_494, wd_493⟩)) (Or.inr wd_482) wd_483 ⟨by decide, by decide, by decide +kernel⟩ dX5_move_54 wd_481 rfl) <|
  ac_cons (so_bipush dX5_move_57 (by decide +kernel) rfl) <|
  ac_cons (so_icmp_gt dX5_move_59 (by decide) rfl) <|
  ac_cons (so_iconst dX5_move_62 (by decide +kernel) rfl) <|
  ac_cons (so_goto dX5_move_63 (by decide)) <|
  ac_cons (so_iconst dX5_move_66 (by decide +kernel) rfl) <|
  ac_cons (so_callS (N := M_X5_requireSupported) C_X5_requireSupported rfl ⟨wd_308, wd_24, dy_X5_requireSupported, ⟨by decide, by decide⟩, tb_X5_move⟩ dX5_move_67 wd_306 wd_307 rfl) <|
  ac_cons (so_iconst dX5_move_70 (by decide +kernel) rfl) <|
  ac_cons (so_istore dX5_move_71 rfl) <|
  ac_cons (so_iload dX5_move_73 rfl) <|
  ac_cons (so_iload dX5_move_75 rfl) <|
  ac_cons (so_icmp_ge dX5_move_77 (by decide) rfl) <|
  ac_cons (so_aload dX5_move_80 rfl) <|
  ac_cons (so_iload dX5_move_82 rfl) <|
  ac_cons (so_iload dX5_move_84 rfl) <|
  ac_cons (so_iadd dX5_move_86 rfl) <|
  ac_cons (so_callS (N := M_X5_takeElement) C_X5_takeElement rfl ⟨wd_498, wd_24, dy_X5_takeElement, ⟨by decide, by decide⟩, tb_X5_move⟩ dX5_move_87 wd_496 wd_497 rfl) <|
  ac_cons (so_lstore dX5_move_90 rfl) <|
  ac_cons (so_aload dX5_move_92 rfl) <|
  ac_cons (so_iload_n dX5_move_94 rfl rfl) <|
  ac_cons (so_iload dX5_move_95 rfl) <|
  ac_cons (so_iadd dX5_move_97 rfl) <|
  ac_cons (so_lload dX5_move_98 rfl) <|
  ac_cons (so_callS (N := M_X5_putElement) C_X5_putElement rfl ⟨wd_511, wd_24, dy_X5_putElement, ⟨by decide, by decide⟩, tb_X5_move⟩ dX5_move_100 wd_509 wd_510 rfl) <|
  ac_cons (so_pop2 dX5_move_103 rfl) <|
  ac_cons (so_iinc dX5_move_104 (by decide +kernel) rfl) <|
  ac_cons (so_goto dX5_move_107 (by decide)) <|
  ac_cons (so_iload dX5_move_110 rfl) <|
  ac_cons (so_ireturn rfl dX5_move_112) <| ac_nil
theorem C_X5_move : ac_Ct yX5_move M_X5_move T_X5_move := ac_meth (by decide +kernel) rfl rfl rfl rfl s_X5_move
end
