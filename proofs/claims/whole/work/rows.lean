section
/-- this claim is read over the whole library (a round sees that by the name) -/
theorem ac_wide (c : ClassId) (n : Nat) : Jvm.Free.Multi.outerC c n 0 0 = Jvm.Free.Multi.outerC c n 0 0 := rfl
-- ===== PART A: goes FIRST, ahead of the names: the tables' words, and 'selects' of the private methods out of them =====
/-- a private method of a class that the tables say can be made, by its rows of tables_1 -/
def lw_okq (q : MethodName × Nat) : Prop := (q.1.cls ≠ "java/lang/invoke/MethodHandle" ∧ q.1.cls ≠ "java/lang/invoke/VarHandle") ∧ Cond.instantiable q.1.cls q.2 ∈ tables_1 ∧ Cond.privateMethod q.1 ∈ tables_1 ∧ Cond.instanceMethod q.1 ∈ tables_1
theorem lw_p0 : lw_okq (⟨"java/lang/NullPointerException", "getExtendedNPEMessage", "()Ljava/lang/String;"⟩, 8) := ⟨⟨by decide +kernel, by decide +kernel⟩, List.mem_of_getElem? (i := 76) (by decide +kernel), List.mem_of_getElem? (i := 74) (by decide +kernel), List.mem_of_getElem? (i := 75) (by decide +kernel)⟩
theorem lw_p1 : lw_okq (⟨"java/lang/Throwable", "fillInStackTrace", "(I)Ljava/lang/Throwable;"⟩, 6) := ⟨⟨by decide +kernel, by decide +kernel⟩, List.mem_of_getElem? (i := 86) (by decide +kernel), List.mem_of_getElem? (i := 84) (by decide +kernel), List.mem_of_getElem? (i := 85) (by decide +kernel)⟩
theorem lw_p2 : lw_okq (⟨"TypedHall", "holdNew", "(ILTypedHall$Item;)I"⟩, 2) := ⟨⟨by decide +kernel, by decide +kernel⟩, List.mem_of_getElem? (i := 24) (by decide +kernel), List.mem_of_getElem? (i := 190) (by decide +kernel), List.mem_of_getElem? (i := 191) (by decide +kernel)⟩
theorem lw_p3 : lw_okq (⟨"TypedHall", "itemIn", "(I)LTypedHall$Item;"⟩, 2) := ⟨⟨by decide +kernel, by decide +kernel⟩, List.mem_of_getElem? (i := 24) (by decide +kernel), List.mem_of_getElem? (i := 265) (by decide +kernel), List.mem_of_getElem? (i := 266) (by decide +kernel)⟩
theorem lw_p4 : lw_okq (⟨"TypedHall$VectorItem", "firstItems", "(II)[LTypedHall$Item;"⟩, 3) := ⟨⟨by decide +kernel, by decide +kernel⟩, List.mem_of_getElem? (i := 164) (by decide +kernel), List.mem_of_getElem? (i := 441) (by decide +kernel), List.mem_of_getElem? (i := 442) (by decide +kernel)⟩
theorem lw_p5 : lw_okq (⟨"TypedHall", "gridIn", "(I)LTypedHall$GridItem;"⟩, 2) := ⟨⟨by decide +kernel, by decide +kernel⟩, List.mem_of_getElem? (i := 24) (by decide +kernel), List.mem_of_getElem? (i := 500) (by decide +kernel), List.mem_of_getElem? (i := 501) (by decide +kernel)⟩
theorem lw_p6 : lw_okq (⟨"TypedHall", "recordOrNone", "(I)LTypedHall$RecordItem;"⟩, 2) := ⟨⟨by decide +kernel, by decide +kernel⟩, List.mem_of_getElem? (i := 24) (by decide +kernel), List.mem_of_getElem? (i := 557) (by decide +kernel), List.mem_of_getElem? (i := 558) (by decide +kernel)⟩
theorem lw_p7 : lw_okq (⟨"TypedHall", "recordIn", "(I)LTypedHall$RecordItem;"⟩, 2) := ⟨⟨by decide +kernel, by decide +kernel⟩, List.mem_of_getElem? (i := 24) (by decide +kernel), List.mem_of_getElem? (i := 561) (by decide +kernel), List.mem_of_getElem? (i := 562) (by decide +kernel)⟩
theorem lw_p8 : lw_okq (⟨"TypedHallModel", "good", "(ZI)Z"⟩, 12) := ⟨⟨by decide +kernel, by decide +kernel⟩, List.mem_of_getElem? (i := 603) (by decide +kernel), List.mem_of_getElem? (i := 658) (by decide +kernel), List.mem_of_getElem? (i := 659) (by decide +kernel)⟩
theorem lw_p9 : lw_okq (⟨"TypedHallModel", "fresh", "(III)I"⟩, 12) := ⟨⟨by decide +kernel, by decide +kernel⟩, List.mem_of_getElem? (i := 603) (by decide +kernel), List.mem_of_getElem? (i := 662) (by decide +kernel), List.mem_of_getElem? (i := 663) (by decide +kernel)⟩
theorem lw_p10 : lw_okq (⟨"TypedHallModel", "known", "(II)Z"⟩, 12) := ⟨⟨by decide +kernel, by decide +kernel⟩, List.mem_of_getElem? (i := 603) (by decide +kernel), List.mem_of_getElem? (i := 679) (by decide +kernel), List.mem_of_getElem? (i := 680) (by decide +kernel)⟩
theorem lw_p11 : lw_okq (⟨"TypedHallModel", "windows", "(I)I"⟩, 12) := ⟨⟨by decide +kernel, by decide +kernel⟩, List.mem_of_getElem? (i := 603) (by decide +kernel), List.mem_of_getElem? (i := 683) (by decide +kernel), List.mem_of_getElem? (i := 684) (by decide +kernel)⟩
theorem lw_p12 : lw_okq (⟨"TypedHallModel", "reach", "(III)Z"⟩, 12) := ⟨⟨by decide +kernel, by decide +kernel⟩, List.mem_of_getElem? (i := 603) (by decide +kernel), List.mem_of_getElem? (i := 707) (by decide +kernel), List.mem_of_getElem? (i := 708) (by decide +kernel)⟩
theorem lw_p13 : lw_okq (⟨"TypedHallModel", "sort", "(I)I"⟩, 12) := ⟨⟨by decide +kernel, by decide +kernel⟩, List.mem_of_getElem? (i := 603) (by decide +kernel), List.mem_of_getElem? (i := 711) (by decide +kernel), List.mem_of_getElem? (i := 712) (by decide +kernel)⟩
theorem lw_p14 : lw_okq (⟨"TypedHallModel", "bottom", "(I)I"⟩, 12) := ⟨⟨by decide +kernel, by decide +kernel⟩, List.mem_of_getElem? (i := 603) (by decide +kernel), List.mem_of_getElem? (i := 715) (by decide +kernel), List.mem_of_getElem? (i := 716) (by decide +kernel)⟩
theorem lw_p15 : lw_okq (⟨"TypedHallModel", "find", "(II)I"⟩, 12) := ⟨⟨by decide +kernel, by decide +kernel⟩, List.mem_of_getElem? (i := 603) (by decide +kernel), List.mem_of_getElem? (i := 719) (by decide +kernel), List.mem_of_getElem? (i := 720) (by decide +kernel)⟩
def lw_privs_1 : List (MethodName × Nat) := [(⟨"java/lang/NullPointerException", "getExtendedNPEMessage", "()Ljava/lang/String;"⟩, 8), (⟨"java/lang/Throwable", "fillInStackTrace", "(I)Ljava/lang/Throwable;"⟩, 6), (⟨"TypedHall", "holdNew", "(ILTypedHall$Item;)I"⟩, 2), (⟨"TypedHall", "itemIn", "(I)LTypedHall$Item;"⟩, 2), (⟨"TypedHall$VectorItem", "firstItems", "(II)[LTypedHall$Item;"⟩, 3), (⟨"TypedHall", "gridIn", "(I)LTypedHall$GridItem;"⟩, 2), (⟨"TypedHall", "recordOrNone", "(I)LTypedHall$RecordItem;"⟩, 2), (⟨"TypedHall", "recordIn", "(I)LTypedHall$RecordItem;"⟩, 2), (⟨"TypedHallModel", "good", "(ZI)Z"⟩, 12), (⟨"TypedHallModel", "fresh", "(III)I"⟩, 12), (⟨"TypedHallModel", "known", "(II)Z"⟩, 12), (⟨"TypedHallModel", "windows", "(I)I"⟩, 12), (⟨"TypedHallModel", "reach", "(III)Z"⟩, 12), (⟨"TypedHallModel", "sort", "(I)I"⟩, 12), (⟨"TypedHallModel", "bottom", "(I)I"⟩, 12), (⟨"TypedHallModel", "find", "(II)I"⟩, 12)]
theorem lw_r1 : ∀ q ∈ lw_privs_1, lw_okq q := List.forall_mem_cons.mpr ⟨lw_p0, List.forall_mem_cons.mpr ⟨lw_p1, List.forall_mem_cons.mpr ⟨lw_p2, List.forall_mem_cons.mpr ⟨lw_p3, List.forall_mem_cons.mpr ⟨lw_p4, List.forall_mem_cons.mpr ⟨lw_p5, List.forall_mem_cons.mpr ⟨lw_p6, List.forall_mem_cons.mpr ⟨lw_p7, List.forall_mem_cons.mpr ⟨lw_p8, List.forall_mem_cons.mpr ⟨lw_p9, List.forall_mem_cons.mpr ⟨lw_p10, List.forall_mem_cons.mpr ⟨lw_p11, List.forall_mem_cons.mpr ⟨lw_p12, List.forall_mem_cons.mpr ⟨lw_p13, List.forall_mem_cons.mpr ⟨lw_p14, List.forall_mem_cons.mpr ⟨lw_p15, fun _ h => absurd h List.not_mem_nil⟩⟩⟩⟩⟩⟩⟩⟩⟩⟩⟩⟩⟩⟩⟩⟩
theorem lw_p16 : lw_okq (⟨"TypedHallModel", "here", "()J"⟩, 12) := ⟨⟨by decide +kernel, by decide +kernel⟩, List.mem_of_getElem? (i := 603) (by decide +kernel), List.mem_of_getElem? (i := 723) (by decide +kernel), List.mem_of_getElem? (i := 724) (by decide +kernel)⟩
theorem lw_p17 : lw_okq (⟨"TypedHallModel", "set", "(J)J"⟩, 12) := ⟨⟨by decide +kernel, by decide +kernel⟩, List.mem_of_getElem? (i := 603) (by decide +kernel), List.mem_of_getElem? (i := 731) (by decide +kernel), List.mem_of_getElem? (i := 732) (by decide +kernel)⟩
theorem lw_p18 : lw_okq (⟨"TypedHallModel", "row", "(II)Z"⟩, 12) := ⟨⟨by decide +kernel, by decide +kernel⟩, List.mem_of_getElem? (i := 603) (by decide +kernel), List.mem_of_getElem? (i := 743) (by decide +kernel), List.mem_of_getElem? (i := 744) (by decide +kernel)⟩
theorem lw_p19 : lw_okq (⟨"TypedHallModel", "column", "(III)Z"⟩, 12) := ⟨⟨by decide +kernel, by decide +kernel⟩, List.mem_of_getElem? (i := 603) (by decide +kernel), List.mem_of_getElem? (i := 747) (by decide +kernel), List.mem_of_getElem? (i := 748) (by decide +kernel)⟩
theorem lw_p20 : lw_okq (⟨"TypedHallModel", "reachItem", "(II)Z"⟩, 12) := ⟨⟨by decide +kernel, by decide +kernel⟩, List.mem_of_getElem? (i := 603) (by decide +kernel), List.mem_of_getElem? (i := 759) (by decide +kernel), List.mem_of_getElem? (i := 760) (by decide +kernel)⟩
theorem lw_p21 : lw_okq (⟨"TypedHallModel", "isRecord", "(I)Z"⟩, 12) := ⟨⟨by decide +kernel, by decide +kernel⟩, List.mem_of_getElem? (i := 603) (by decide +kernel), List.mem_of_getElem? (i := 771) (by decide +kernel), List.mem_of_getElem? (i := 772) (by decide +kernel)⟩
theorem lw_p22 : lw_okq (⟨"TypedHallModel", "both", "(III)Z"⟩, 12) := ⟨⟨by decide +kernel, by decide +kernel⟩, List.mem_of_getElem? (i := 603) (by decide +kernel), List.mem_of_getElem? (i := 791) (by decide +kernel), List.mem_of_getElem? (i := 792) (by decide +kernel)⟩
def lw_privs_2 : List (MethodName × Nat) := [(⟨"TypedHallModel", "here", "()J"⟩, 12), (⟨"TypedHallModel", "set", "(J)J"⟩, 12), (⟨"TypedHallModel", "row", "(II)Z"⟩, 12), (⟨"TypedHallModel", "column", "(III)Z"⟩, 12), (⟨"TypedHallModel", "reachItem", "(II)Z"⟩, 12), (⟨"TypedHallModel", "isRecord", "(I)Z"⟩, 12), (⟨"TypedHallModel", "both", "(III)Z"⟩, 12)]
theorem lw_r2 : ∀ q ∈ lw_privs_2, lw_okq q := List.forall_mem_cons.mpr ⟨lw_p16, List.forall_mem_cons.mpr ⟨lw_p17, List.forall_mem_cons.mpr ⟨lw_p18, List.forall_mem_cons.mpr ⟨lw_p19, List.forall_mem_cons.mpr ⟨lw_p20, List.forall_mem_cons.mpr ⟨lw_p21, List.forall_mem_cons.mpr ⟨lw_p22, fun _ h => absurd h List.not_mem_nil⟩⟩⟩⟩⟩⟩⟩
def lw_privs : List (MethodName × Nat) := lw_privs_1 ++ (lw_privs_2)
def lw_tbl : List Cond := k2_sels lw_privs ++ tables_1
theorem lw_privs_ok : ∀ q ∈ lw_privs, lw_okq q := by
  show ∀ q ∈ lw_privs_1 ++ (lw_privs_2), lw_okq q
  exact List.forall_mem_append.mpr ⟨lw_r1, lw_r2⟩
end
section
/-! ===== BEGIN words of one list among another's, by their places ===== -/
theorem goodIn_r {big : List Cond} (ws : List Cond) (ps : List Nat) (hp : ws = ps.filterMap (fun i => big[i]?)) (h : ws.all goodWord = true) : GoodIn big ws := by
  intro w hw
  have h1 := List.all_eq_true.mp h w hw
  rw [hp] at hw
  obtain ⟨i, -, hi⟩ := List.mem_filterMap.mp hw
  have hm : w ∈ big := by first | exact List.mem_of_getElem? hi | exact List.getElem?_mem hi
  exact ⟨hm, good_of_word h1⟩
theorem goodIn_app {big a b : List Cond} (ha : GoodIn big a) (hb : GoodIn big b) : GoodIn big (a ++ b) := fun w h => (List.mem_append.mp h).elim (ha w) (hb w)
theorem goodIn_ca {big a b : List Cond} {c : Cond} (ha : GoodIn big (c :: a)) (hb : GoodIn big b) : GoodIn big (c :: (a ++ b)) := fun w h => (List.mem_cons.mp h).elim (fun e => ha w (List.mem_cons.mpr (Or.inl e))) (fun h => (List.mem_append.mp h).elim (fun h => ha w (List.mem_cons.mpr (Or.inr h))) (hb w))
theorem goodIn_sub {big ws : List Cond} (hm : ∀ w ∈ ws, w ∈ big) (h : ws.all goodWord = true) : GoodIn big ws := fun w hw => ⟨hm w hw, good_of_word (List.all_eq_true.mp h w hw)⟩
/-! ===== END ===== -/


/-! ===== BEGIN exceptions that leave a method, and their catching by the caller (launches without stack traces) ===== -/
section VXA
/-! The laws vx_back, vx_callV, vx_callS, vx_callSW, vx_throw0, vx_throwS follow proofs of the library, with one case more: JvmDerived/Free/Laws.lean (Back.of_free), Shelf42/LK1.lean (callV, callS), Shelf/KitTraced.lean (throwNew0V, throwNewS). -/
/-- where a method has thrown q: the class by its name, the cell, what was written, the world -/
def vx_T (XC : String → State → State → Prop) (st : State) (q : Addr) (t : State) (mc ms : Nat) (free : Addr → Prop) : Prop :=
  ∃ (E : String) (ce : Cell) (L : List Loc), XC E st t ∧ t.heap[q]? = some ce ∧ ce.vm = .none ∧ st.vm.findClass E = some ce.cls ∧ st.WarmedH t.vm ∧ st.sameButNew ({ t with vm := st.vm } : State) L mc ms ∧ ∀ z ∈ L, free z.base
def vx_Q (Qc : Array Value → State → Outcome → State → Prop) (XC : String → State → State → Prop) (mc ms : Nat) (free : Addr → Prop) : Array Value → State → Outcome → State → Prop := fun a st o t =>
  (Qc a st o t ∧ ∃ L, FrameEnd st o t L mc ms ∧ ∀ q ∈ L, free q.base) ∨ ∃ q, o = .threw q ∧ vx_T XC st q t mc ms free
/-- a callee that returns or throws -/
def vx_Met (l : Launch) (y : MethodName) (ws : List Cond) (rm : Room) (Pc : Array Value → State → Prop) (Qc : Array Value → State → Outcome → State → Prop) (XC : String → State → State → Prop) (mc ms : Nat) (free : Addr → Prop) : Prop :=
  MetFree l y (headSpec ws rm) Pc (fun _ _ _ _ _ => True) (vx_Q Qc XC mc ms free)
def vx_Post (XC : String → State → State → Prop) (mc ms : Nat) (free : Addr → Prop) : Pt → Array Value → Addr → Pt → Prop := fun A a q B =>
  ∃ (g : JFrame) (mk : MethodId) (t : State) (L : List Loc) (E : String) (ce : Cell), B.U.heap = t.heap ∧ B.U.vm = t.vm ∧ XC E (A.U.calling g mk a) t ∧ t.heap[q]? = some ce ∧ ce.vm = .none ∧ A.U.vm.findClass E = some ce.cls ∧ B.locs = A.locs ++ L ∧ (∀ z ∈ L, free z.base) ∧ B.cells = A.cells + mc ∧ B.slots = A.slots + ms
def vx_Back (l : Launch) (R : Room) (p : Program) (e : Env) (below : List Frame) (s : State) (sargs : Array Value) (y : MethodName) (len W9 : Nat)
    (Pre : Pt → Array Value → Prop) (Post : Pt → Array Value → Option Value → Pt → Prop) (PostX : Pt → Array Value → Addr → Pt → Prop) : Prop :=
  ∀ (m : MethodId) (meth : Method) (c : Code) (A : Pt) (g : JFrame) (ig : Instr) (mk : MethodId) (a : Array Value),
    Stand p l e R s m sargs below meth c A.U A.locs A.cells A.slots → g.method = m → g.locals.size = c.maxLocals → decode c.code g.pc = .ok (ig, len) →
    2 * g.monitorRoom + (g.stack.map fun v => v.category).sum ≤ W9 → A.U.methodNamed? y = some mk → Pre A a →
    (∃ (v : Option Value) (B : Pt), Stand p l e R s m sargs below meth c B.U B.locs B.cells B.slots ∧ Post A a v B ∧
      Steps p.tables e below (doInvoke e (A.U.setTop g) [] mk a).1 (B.U.setTop { g with pc := g.pc + len, stack := v.toList ++ g.stack })) ∨
    (∃ (q : Addr) (B : Pt), Stand p l e R s m sargs below meth c B.U B.locs B.cells B.slots ∧ PostX A a q B ∧
      Steps p.tables e below (doInvoke e (A.U.setTop g) [] mk a).1 ((B.U.setTop g).pushFrame (.throwing q)))
section Payer
variable {l : Launch} {R : Room} {p : Program} {e : Env} {below : List Frame} {s : State} {sargs : Array Value} {y : MethodName} {len W9 : Nat}
theorem vx_back {ws : List Cond} {rm : Room} {Pc : Array Value → State → Prop} {Qc : Array Value → State → Outcome → State → Prop} {XC : String → State → State → Prop} {mc ms : Nat} {free : Addr → Prop} {bytes : ByteArray} {maxL : Nat} {ret : Option FieldType}
    (hM : vx_Met l y ws rm Pc Qc XC mc ms free) (hblind : FrameBlind Pc) (hrc : rm.cells = mc) (hrs : rm.slots = ms)
    (hframes : rm.frames + 1 ≤ R.frames) (hlocals : W9 + (maxL + 11) + rm.locals ≤ R.locals)
    (hws : ∀ w ∈ ws, ∀ a' U, s.WarmedH U.vm → w.before a' U = true) (hcode : Cond.code y bytes maxL ret ∈ ws) (hinit : ∀ a' U, s.WarmedH U.vm → (Cond.initialized y.cls).before a' U = true) :
    vx_Back l R p e below s sargs y len W9 (PreOf R mc ms Pc) (PostOf Qc mc ms free) (vx_Post XC mc ms free) := by
  intro m meth c A g ig mk a X hg hsize hdg hW hn hp
  have h1 : (headSpec ws rm).pre.before a A.U = true := atoms_intro fun w hw => hws w hw _ _ X.warmed
  have h2 : (Cond.code y bytes maxL ret).before a A.U = true := hws _ hcode _ _ X.warmed
  have h3 : (Cond.initialized y.cls).before a A.U = true := hinit _ _ X.warmed
  have h4 : A.cells + (headSpec ws rm).room.cells ≤ R.cells := by rw [show (headSpec ws rm).room.cells = mc from hrc]; exact hp.1
  have h5 : A.slots + (headSpec ws rm).room.slots ≤ R.slots := by rw [show (headSpec ws rm).room.slots = ms from hrs]; exact hp.2.1
  have hPc : Pc a (A.U.calling g mk a) := hblind _ _ _ _ hp.2.2
  obtain ⟨U, Ls, c0, s0⟩ := A
  dsimp only [Pt.U, Pt.locs, Pt.cells, Pt.slots] at h1 h2 h3 h4 h5 X hn hPc ⊢
  obtain ⟨methY, cY, hmY, hcY, -, hlY, -, -, -, -⟩ := Cond.code_spec hn h2
  obtain ⟨kY, hkY, -⟩ := className_of_methodNamed hn
  have hinitY : kY.init = .initialized := Cond.initialized_spec (findClass_of_methodNamed hn) hkY h3
  have h : At U g.method c below := by rw [hg]; exact X.here
  have hlocals9 : W9 + (maxL + 11) + (headSpec ws rm).room.locals ≤ R.locals := hlocals
  have happ : (headSpec ws rm).appliesLoose y e.platform (U.calling g mk a) = true :=
    Spec.appliesLoose_calling (g := g) h hdg hn hkY hinitY
      (X.room_calling (g := g) (R' := (headSpec ws rm).room) hsize hmY hcY hframes (by rw [hlY]; omega) h4 h5) h1
  obtain ⟨mid, hmid⟩ := h.above
  have hfr : (U.setTop g).frames = (.java g :: mid) ++ below := by rw [State.frames_setTop' g h.top, hmid]; rfl
  obtain ⟨o, s₂, hsteps, -, hend, hq⟩ := Steps.callFree hM p X.admits X.cas X.clock (acts := []) hfr happ hPc trivial
  have hq' : vx_Q Qc XC mc ms free a (U.calling g mk a) o s₂ := hq
  rw [State.frames_setTop' g h.top] at hend
  obtain ⟨g₀, hg0⟩ := Option.isSome_iff_exists.mp h.top
  obtain ⟨r, hr⟩ := State.topJava?_eq_some.mp hg0
  have hr' : (({ U with heap := s₂.heap, slotsUsed := s₂.slotsUsed } : State).setVm s₂.vm).frames = .java g₀ :: r := hr
  rcases hq' with ⟨hqc, L, hfe, hL⟩ | ⟨q, rfl, E, ce, L, hx, hce, hcv, hcl, hW₂, hsm, hL⟩
  · obtain ⟨⟨v, rfl⟩, hW₂, e2, q2, q3, q4, q5, q6⟩ := id hfe
    have e3 : s₂ = ({ (U.calling g mk a).setFrames s₂.frames with heap := s₂.heap, slotsUsed := s₂.slotsUsed } : State).setVm s₂.vm := by
      have : s₂ = ({ s₂ with vm := (U.calling g mk a).vm } : State).setVm s₂.vm := rfl
      rw [e2] at this
      exact this
    obtain ⟨c₂, i₂, len₂, hc₂, hd₂, hf₂⟩ := hend
    have hW' : U.WarmedH s₂.vm := hW₂
    have hcc : c₂ = c := by
      have h1 : s₂.code? g.method = U.code? g.method := by
        rw [State.code?_eq, State.code?_eq, hW'.alike.method?]
      exact Option.some.inj (hc₂.symm.trans (h1.trans h.code))
    subst hcc
    have hlen : len₂ = len := by rw [hdg] at hd₂; cases hd₂; rfl
    subst hlen
    have hs₂ : s₂ = (({ U with heap := s₂.heap, slotsUsed := s₂.slotsUsed } : State).setVm s₂.vm).setTop { g with pc := g.pc + len₂, stack := v.toList ++ g.stack } := by
      refine e3.trans ?_
      rw [hf₂, State.calling_eq h.top, State.setFrames_setFrames, State.setTop_of_frames _ hr', hr]
      rfl
    have hsame : U.sameButNew ({ U with heap := s₂.heap, slotsUsed := s₂.slotsUsed } : State) L mc ms := by
      refine ⟨?_, q2, q3, q4, q5, q6⟩
      obtain ⟨t, ht, -⟩ := State.frames_cons hr
      show ({ U with heap := s₂.heap, slotsUsed := s₂.slotsUsed } : State) = { U.setFrames U.frames with heap := s₂.heap, slotsUsed := s₂.slotsUsed }
      rw [State.setFrames_self ht]
    subst hg
    refine Or.inl ⟨v, ⟨(({ U with heap := s₂.heap, slotsUsed := s₂.slotsUsed } : State).setVm s₂.vm), Ls ++ L, c0 + mc, s0 + ms⟩,
      ⟨X.admits, X.cas, X.clock, X.frames, X.room, X.hears, X.method, X.code, (X.here.setHeapUsed s₂.heap s₂.slotsUsed).setVm hW'.alike, X.tail, State.WarmedH.trans X.warmed hW', X.limits, X.bytes, X.same.trans (hsame.setVm s.vm)⟩,
      ⟨g, mk, s₂, L, rfl, rfl, hqc, rfl, hL, rfl, rfl⟩, ?_⟩
    show Steps p.tables e below _ ((({ U with heap := s₂.heap, slotsUsed := s₂.slotsUsed } : State).setVm s₂.vm).setTop { g with pc := g.pc + len₂, stack := v.toList ++ g.stack })
    rw [← hs₂]
    exact hsteps
  · obtain ⟨e2, q2, q3, q4, q5, q6⟩ := id hsm
    have e3 : s₂ = ({ (U.calling g mk a).setFrames s₂.frames with heap := s₂.heap, slotsUsed := s₂.slotsUsed } : State).setVm s₂.vm := by
      have : s₂ = ({ s₂ with vm := (U.calling g mk a).vm } : State).setVm s₂.vm := rfl
      rw [e2] at this
      exact this
    have hf₂ : s₂.frames = .throwing q :: .java g :: U.frames.tail := hend
    have hW' : U.WarmedH s₂.vm := hW₂
    have hs₂ : s₂ = ((({ U with heap := s₂.heap, slotsUsed := s₂.slotsUsed } : State).setVm s₂.vm).setTop g).pushFrame (.throwing q) := by
      refine e3.trans ?_
      rw [hf₂, State.calling_eq h.top, State.setFrames_setFrames, State.pushFrame, State.frames_setTop _ hr', State.setTop_of_frames _ hr', State.setFrames_setFrames, hr]
      rfl
    have hsame : U.sameButNew ({ U with heap := s₂.heap, slotsUsed := s₂.slotsUsed } : State) L mc ms := by
      refine ⟨?_, q2, q3, q4, q5, q6⟩
      obtain ⟨t, ht, -⟩ := State.frames_cons hr
      show ({ U with heap := s₂.heap, slotsUsed := s₂.slotsUsed } : State) = { U.setFrames U.frames with heap := s₂.heap, slotsUsed := s₂.slotsUsed }
      rw [State.setFrames_self ht]
    subst hg
    refine Or.inr ⟨q, ⟨(({ U with heap := s₂.heap, slotsUsed := s₂.slotsUsed } : State).setVm s₂.vm), Ls ++ L, c0 + mc, s0 + ms⟩,
      ⟨X.admits, X.cas, X.clock, X.frames, X.room, X.hears, X.method, X.code, (X.here.setHeapUsed s₂.heap s₂.slotsUsed).setVm hW'.alike, X.tail, State.WarmedH.trans X.warmed hW', X.limits, X.bytes, X.same.trans (hsame.setVm s.vm)⟩,
      ⟨g, mk, s₂, L, E, ce, rfl, rfl, hx, hce, hcv, hcl, rfl, hL, rfl, rfl⟩, ?_⟩
    show Steps p.tables e below _ (((({ U with heap := s₂.heap, slotsUsed := s₂.slotsUsed } : State).setVm s₂.vm).setTop g).pushFrame (.throwing q))
    rw [← hs₂]
    exact hsteps
end Payer
section Calls
variable {p : Program} {l : Launch} {e : Env} {R : Room} {s : State} {m : MethodId} {args : Array Value} {below : List Frame} {meth : Method} {c : Code} {T : State} {locs : List Loc} {cells slots : Nat}
theorem vx_callV (X : Stand p l e R s m args below meth c T locs cells slots) (hexec : p.tables.exec = Jvm.exec) {own C : String} {index : Nat} {y : MethodName} {bytes : ByteArray} {maxL : Nat} {ret : Option FieldType}
    (hown : s.vm.findClass own = some m.cls) (hlink : (Cond.methodLink own index y).before args s = true) (hinst : (Cond.instanceMethod y).before args s = true) (hsel : (Cond.selects C y y).before args s = true)
    (hcode : (Cond.code y bytes maxL ret).before args s = true) (hy : y.cls ≠ "java/lang/invoke/MethodHandle" ∧ y.cls ≠ "java/lang/invoke/VarHandle")
    {W9 : Nat} {Pre : Pt → Array Value → Prop} {Post : Pt → Array Value → Option Value → Pt → Prop} {PostX : Pt → Array Value → Addr → Pt → Prop} (hK : vx_Back l R p e below s args y 3 W9 Pre Post PostX)
    {b : Addr} {cellB : Cell} (hcell : T.heap[b]? = some cellB) (hobj : cellB.vm.isStatics = false) (hcls : s.vm.findClass C = some cellB.cls)
    {g : JFrame} (hg : g.method = m) (hsize : g.locals.size = c.maxLocals) {argsL rest : List Value} (hlen : ∀ sig, parseMethodDescriptor y.desc = some sig → argsL.length = sig.parameters.length)
    (hstack : g.stack = argsL.reverse ++ .ref b :: rest) (hW : 2 * g.monitorRoom + (rest.map fun v => v.category).sum ≤ W9) (hdg : decode c.code g.pc = .ok (.invokevirtual index, 3))
    (hpre : ∀ vm₁, s.WarmedH vm₁ → Pre ⟨T.setVm vm₁, locs, cells, slots⟩ (Value.ref b :: argsL).toArray) :
    (∃ (v : Option Value) (vm₁ : Vm) (B : Pt), s.WarmedH vm₁ ∧ Stand p l e R s m args below meth c B.U B.locs B.cells B.slots ∧ Post ⟨T.setVm vm₁, locs, cells, slots⟩ (Value.ref b :: argsL).toArray v B ∧
      ∀ target, Steps p.tables e below (B.U.setTop { g with pc := g.pc + 3, stack := v.toList ++ rest }) target → Steps p.tables e below (T.setTop g) target) ∨
    (∃ (q : Addr) (vm₁ : Vm) (B : Pt), s.WarmedH vm₁ ∧ Stand p l e R s m args below meth c B.U B.locs B.cells B.slots ∧ PostX ⟨T.setVm vm₁, locs, cells, slots⟩ (Value.ref b :: argsL).toArray q B ∧
      Steps p.tables e below (T.setTop g) ((B.U.setTop { g with stack := rest }).pushFrame (.throwing q))) := by
  obtain ⟨mk, methM, hnamed, hmethM, hstM, habM⟩ := Cond.instanceMethod_spec hinst
  obtain ⟨methM', cM, hmethM', -, -, -, -, -, -, hsigM⟩ := Cond.code_spec hnamed hcode
  cases hmethM.symm.trans hmethM'
  obtain ⟨c2, r2, m2, q1, q2, q3, q4, kP, hkP, hkPi⟩ := Cond.selects_spec hsel
  cases hcls.symm.trans q1
  cases (State.methodFound?_of_named hnamed hy).symm.trans q2
  cases hnamed.symm.trans q3
  have hselP : selectMethod e.platform s.vm cellB.cls mk = .method mk := by rw [Launch.admits_selectMethod X.admits]; exact q4
  obtain ⟨vm₁, X₁, hstep₁⟩ := X.invokevirtual hexec hown hlink hnamed hmethM hstM hkP hkPi hy (a := b) (cell := cellB) hcell
    (fun z h => by rw [h] at hobj; cases hobj) hselP hmethM habM hkP hkPi (g := g) hg (argsL := argsL) (rest := rest) (hlen _ hsigM) hstack hdg
  rcases hK m meth c ⟨T.setVm vm₁, locs, cells, slots⟩ { g with stack := rest } (.invokevirtual index) mk (Value.ref b :: argsL).toArray X₁ hg hsize hdg hW (X₁.named hnamed) (hpre vm₁ X₁.warmed) with ⟨v, B, X', hpost, hsteps⟩ | ⟨q, B, X', hpost, hsteps⟩
  · exact Or.inl ⟨v, vm₁, B, X₁.warmed, X', hpost, fun target h => hstep₁ _ fun acts => by rw [doInvoke_state]; exact hsteps.trans h⟩
  · exact Or.inr ⟨q, vm₁, B, X₁.warmed, X', hpost, hstep₁ _ fun acts => by rw [doInvoke_state]; exact hsteps⟩
theorem vx_callS (X : Stand p l e R s m args below meth c T locs cells slots) (hexec : p.tables.exec = Jvm.exec) {own : String} {index : Nat} {y : MethodName} {bytes : ByteArray} {maxL : Nat} {ret : Option FieldType}
    (hown : s.vm.findClass own = some m.cls) (hlink : (Cond.methodLink own index y).before args s = true) (hstat : (Cond.static y).before args s = true) (hinit : (Cond.initialized y.cls).before args s = true)
    (hcode : (Cond.code y bytes maxL ret).before args s = true) (hy : y.cls ≠ "java/lang/invoke/MethodHandle" ∧ y.cls ≠ "java/lang/invoke/VarHandle")
    {W9 : Nat} {Pre : Pt → Array Value → Prop} {Post : Pt → Array Value → Option Value → Pt → Prop} {PostX : Pt → Array Value → Addr → Pt → Prop} (hK : vx_Back l R p e below s args y 3 W9 Pre Post PostX)
    {g : JFrame} (hg : g.method = m) (hsize : g.locals.size = c.maxLocals) {argsL rest : List Value} (hlen : ∀ sig, parseMethodDescriptor y.desc = some sig → argsL.length = sig.parameters.length)
    (hstack : g.stack = argsL.reverse ++ rest) (hW : 2 * g.monitorRoom + (rest.map fun v => v.category).sum ≤ W9) (hdg : decode c.code g.pc = .ok (.invokestatic index, 3))
    (hpre : ∀ vm₁, s.WarmedH vm₁ → Pre ⟨T.setVm vm₁, locs, cells, slots⟩ argsL.toArray) :
    (∃ (v : Option Value) (vm₁ : Vm) (B : Pt), s.WarmedH vm₁ ∧ Stand p l e R s m args below meth c B.U B.locs B.cells B.slots ∧ Post ⟨T.setVm vm₁, locs, cells, slots⟩ argsL.toArray v B ∧
      ∀ target, Steps p.tables e below (B.U.setTop { g with pc := g.pc + 3, stack := v.toList ++ rest }) target → Steps p.tables e below (T.setTop g) target) ∨
    (∃ (q : Addr) (vm₁ : Vm) (B : Pt), s.WarmedH vm₁ ∧ Stand p l e R s m args below meth c B.U B.locs B.cells B.slots ∧ PostX ⟨T.setVm vm₁, locs, cells, slots⟩ argsL.toArray q B ∧
      Steps p.tables e below (T.setTop g) ((B.U.setTop { g with stack := rest }).pushFrame (.throwing q))) := by
  obtain ⟨mk, hnamed⟩ := Cond.code_named hcode
  obtain ⟨methM, cM, hmethM, -, -, -, -, -, -, hsigM⟩ := Cond.code_spec hnamed hcode
  have hstatic : methM.isStatic = true := Cond.static_spec hnamed hmethM hstat
  obtain ⟨kP, hkP, -⟩ := className_of_methodNamed hnamed
  have hinitP : kP.init = .initialized := Cond.initialized_spec (findClass_of_methodNamed hnamed) hkP hinit
  obtain ⟨vm₁, X₁, hstep₁⟩ := X.invokestatic hexec hown hlink hnamed hmethM hstatic hkP hinitP hy (g := g) hg (argsL := argsL) (rest := rest) (hlen _ hsigM) hstack hdg
  rcases hK m meth c ⟨T.setVm vm₁, locs, cells, slots⟩ { g with stack := rest } (.invokestatic index) mk argsL.toArray X₁ hg hsize hdg hW (X₁.named hnamed) (hpre vm₁ X₁.warmed) with ⟨v, B, X', hpost, hsteps⟩ | ⟨q, B, X', hpost, hsteps⟩
  · exact Or.inl ⟨v, vm₁, B, X₁.warmed, X', hpost, fun target h => hstep₁ _ fun acts => by rw [doInvoke_state]; exact hsteps.trans h⟩
  · exact Or.inr ⟨q, vm₁, B, X₁.warmed, X', hpost, hstep₁ _ fun acts => by rw [doInvoke_state]; exact hsteps⟩
end Calls
theorem vx_cls {s : State} {T : State} {vm₁ : Vm} {E : String} {k : ClassId} (hW : s.WarmedH vm₁) (h : (T.setVm vm₁).vm.findClass E = some k) : s.vm.findClass E = some k := by
  have h1 : vm₁.findClass E = some k := h
  rw [hW.alike.findClass] at h1
  exact h1
/-- the method's frame g, with q thrown over it -/
def vx_W (p : Program) (l : Launch) (e : Env) (R : Room) (s : State) (m : MethodId) (args : Array Value) (below : List Frame) (meth : Method) (c : Code) (H : Heap) (locs : List Loc) (cells slots : Nat) (Q : State → Prop) (g : JFrame) (q : Addr) : Prop :=
  ∀ T : State, T.heap = H → Stand p l e R s m args below meth c T locs cells slots → ∃ t, Steps p.tables e below ((T.setTop g).pushFrame (.throwing q)) t ∧ Q t
def vx_Run (p : Program) (l : Launch) (e : Env) (R : Room) (s : State) (m : MethodId) (args : Array Value) (below : List Frame) (meth : Method) (c : Code) (H : Heap) (locs : List Loc) (cells slots mc ms : Nat) (g : JFrame) (rest : List Value) (Qa : State → Outcome → State → Prop) (XC : String → State → State → Prop) (free : Addr → Prop) : Prop :=
  ∀ T : State, T.heap = H → Stand p l e R s m args below meth c T locs cells slots →
    (∃ (v : Option Value) (st₀ t T' : State) (L : List Loc), st₀.heap = H ∧ Stand p l e R s m args below meth c T' (locs ++ L) (cells + mc) (slots + ms) ∧ (∀ q ∈ L, free q.base) ∧ T'.heap = t.heap ∧ T'.vm = t.vm ∧ Qa st₀ (.returned v) t ∧
      Goes p e below T g T' { g with pc := g.pc + 3, stack := v.toList ++ rest }) ∨
    (∃ (q : Addr) (st₀ t T' : State) (L : List Loc) (E : String) (ce : Cell), st₀.heap = H ∧ Stand p l e R s m args below meth c T' (locs ++ L) (cells + mc) (slots + ms) ∧ (∀ z ∈ L, free z.base) ∧ T'.heap = t.heap ∧ T'.vm = t.vm ∧ XC E st₀ t ∧ t.heap[q]? = some ce ∧ ce.vm = .none ∧ s.vm.findClass E = some ce.cls ∧
      Steps p.tables e below (T.setTop g) ((T'.setTop { g with stack := rest }).pushFrame (.throwing q)))
def vx_X {S : Type} (px : S → Prop) (B : String → S → State → Prop) (A : Nat → Prop) : String → State → State → Prop := fun E st t => ∃ u : S, px u ∧ B E u t ∧ va_F A st t
section Runs
variable {p : Program} {l : Launch} {e : Env} {R : Room} {s : State} {m : MethodId} {args : Array Value} {below : List Frame} {meth : Method} {c : Code} {H : Heap} {locs : List Loc} {cells slots : Nat}
variable {y : MethodName} {bytes cc : ByteArray} {maxL nL mc ms n index : Nat} {ret : Option FieldType} {ws : List Cond} {rm : Room} {Pc : Array Value → State → Prop} {Qc : Array Value → State → Outcome → State → Prop} {XC : String → State → State → Prop} {free : Addr → Prop} {Ts : List Cond} {own C : String} {b : Addr} {As rest : List Value} {g : JFrame}
theorem vx_callBack (cb : CallB R s args own index y bytes maxL ret ws rm mc ms n) (hM : vx_Met l y ws rm Pc Qc XC mc ms free) (hbl : FrameBlind Pc) : vx_Back l R p e below s args y 3 8 (PreOf R mc ms Pc) (PostOf Qc mc ms free) (vx_Post XC mc ms free) := by
  obtain ⟨hrc, hrs, hfr, hlo, hws, hcw, -, hini, -⟩ := cb
  exact vx_back (bytes := bytes) (maxL := maxL) (ret := ret) hM hbl hrc hrs hfr hlo hws hcw (fun a' U hW => word_at hW (Or.inl (by first | rfl | simp [Cond.onTables, Cond.keeps, Cond.steady])) hini)
theorem vx_runV (S : CallFix p m c cc nL s args Ts own) (hM : vx_Met l y ws rm Pc Qc XC mc ms free) (cw : CallW R s args own C index y bytes maxL ret ws rm mc ms n) (hp : PreV s H C b Pc As)
    (hg : g.method = m) (hn : As.length = n) (hsize : g.locals.size = nL) (hstack : g.stack = As.reverse ++ .ref b :: rest) (hW : 2 * g.monitorRoom + (rest.map fun v => v.category).sum ≤ 8) (hdg : decode cc g.pc = .ok (.invokevirtual index, 3)) (hf : cells + mc ≤ R.cells ∧ slots + ms ≤ R.slots) :
    vx_Run p l e R s m args below meth c H locs cells slots mc ms g rest (Qc (Value.ref b :: As).toArray) XC free := by
  have hK : vx_Back l R p e below s args y 3 8 (PreOf R mc ms Pc) (PostOf Qc mc ms free) (vx_Post XC mc ms free) := vx_callBack cw.1 hM hp.1
  obtain ⟨⟨-, -, -, -, -, -, hcode, -, hy, hlen, hl⟩, hin, hse⟩ := cw
  obtain ⟨hx, hb, hml, ho, -⟩ := S
  obtain ⟨-, ⟨cellB, hcB, hoB, hclB⟩, hPc⟩ := hp
  intro T hT X
  rcases vx_callV X hx (C := C) (bytes := bytes) (maxL := maxL) (ret := ret) ho hl hin hse hcode hy hK (by rw [hT]; exact hcB) hoB hclB hg (hsize.trans hml.symm) (argsL := As) (rest := rest) (fun sig h => hn.trans (hlen sig h)) hstack hW (by rw [hb]; exact hdg)
    (fun vm₁ hW₁ => ⟨hf.1, hf.2, hPc (T.setVm vm₁) hT hW₁⟩) with ⟨v, vm₁, ⟨U', l2, c2, s2⟩, hW₁, X', ⟨g', mk, t, L, e1, e2, hq, h1, hL, h2, h3⟩, st⟩ | ⟨q, vm₁, ⟨U', l2, c2, s2⟩, hW₁, X', ⟨g', mk, t, L, E, ce, e1, e2, hq, hce, hcv, hcl, h1, hL, h2, h3⟩, st⟩
  · dsimp only [Pt.U, Pt.locs, Pt.cells, Pt.slots] at X' e1 e2 h1 h2 h3 st
    subst h1; subst h2; subst h3
    exact Or.inl ⟨v, (T.setVm vm₁).calling g' mk (Value.ref b :: As).toArray, t, U', L, hT, X', hL, e1, e2, hq, st⟩
  · dsimp only [Pt.U, Pt.locs, Pt.cells, Pt.slots] at X' e1 e2 h1 h2 h3 st hcl
    subst h1; subst h2; subst h3
    exact Or.inr ⟨q, (T.setVm vm₁).calling g' mk (Value.ref b :: As).toArray, t, U', L, E, ce, hT, X', hL, e1, e2, hq, hce, hcv, vx_cls hW₁ hcl, st⟩
theorem vx_runS (S : CallFix p m c cc nL s args Ts own) (hM : vx_Met l y ws rm Pc Qc XC mc ms free) (cw : CallB R s args own index y bytes maxL ret ws rm mc ms n ∧ (Cond.static y).before args s = true) (hp : PreS s H Pc As)
    (hg : g.method = m) (hn : As.length = n) (hsize : g.locals.size = nL) (hstack : g.stack = As.reverse ++ rest) (hW : 2 * g.monitorRoom + (rest.map fun v => v.category).sum ≤ 8) (hdg : decode cc g.pc = .ok (.invokestatic index, 3)) (hf : cells + mc ≤ R.cells ∧ slots + ms ≤ R.slots) :
    vx_Run p l e R s m args below meth c H locs cells slots mc ms g rest (Qc As.toArray) XC free := by
  have hK : vx_Back l R p e below s args y 3 8 (PreOf R mc ms Pc) (PostOf Qc mc ms free) (vx_Post XC mc ms free) := vx_callBack cw.1 hM hp.1
  obtain ⟨⟨-, -, -, -, -, -, hcode, hini, hy, hlen, hl⟩, hstt⟩ := cw
  obtain ⟨hx, hb, hml, ho, -⟩ := S
  intro T hT X
  rcases vx_callS X hx (bytes := bytes) (maxL := maxL) (ret := ret) ho hl hstt hini hcode hy hK hg (hsize.trans hml.symm) (argsL := As) (rest := rest) (fun sig h => hn.trans (hlen sig h)) hstack hW (by rw [hb]; exact hdg)
    (fun vm₁ hW₁ => ⟨hf.1, hf.2, hp.2 (T.setVm vm₁) hT hW₁⟩) with ⟨v, vm₁, ⟨U', l2, c2, s2⟩, hW₁, X', ⟨g', mk, t, L, e1, e2, hq, h1, hL, h2, h3⟩, st⟩ | ⟨q, vm₁, ⟨U', l2, c2, s2⟩, hW₁, X', ⟨g', mk, t, L, E, ce, e1, e2, hq, hce, hcv, hcl, h1, hL, h2, h3⟩, st⟩
  · dsimp only [Pt.U, Pt.locs, Pt.cells, Pt.slots] at X' e1 e2 h1 h2 h3 st
    subst h1; subst h2; subst h3
    exact Or.inl ⟨v, (T.setVm vm₁).calling g' mk As.toArray, t, U', L, hT, X', hL, e1, e2, hq, st⟩
  · dsimp only [Pt.U, Pt.locs, Pt.cells, Pt.slots] at X' e1 e2 h1 h2 h3 st hcl
    subst h1; subst h2; subst h3
    exact Or.inr ⟨q, (T.setVm vm₁).calling g' mk As.toArray, t, U', L, E, ce, hT, X', hL, e1, e2, hq, hce, hcv, vx_cls hW₁ hcl, st⟩
end Runs
section Rows
variable {p : Program} {l : Launch} {e : Env} {R : Room} {s : State} {m : MethodId} {args : Array Value} {below : List Frame} {meth : Method} {c : Code} {H : Heap} {locs : List Loc} {cells slots : Nat} {Q : State → Prop}
variable {mc ms : Nat} {free : Addr → Prop} {A0 A1 : Nat → Prop} {H0 : Heap} {a : Array Value} {pc : Nat} {ls : Array Slot} {st0 rest : List Value}
theorem vx_keep {st₀ t T' : State} {L : List Loc} (h0 : st₀.heap = H) (e1 : T'.heap = t.heap) (hS : va_S A0 H0 H locs) (hA : ∀ q, q < H.size → A1 q → A0 q) (hf : ∀ q, free q → A0 q) (hL : ∀ q ∈ L, free q.base) (hF : va_F A1 st₀ t) :
    H.size ≤ T'.heap.size ∧ (∀ q : Nat, q < H.size → ¬ A1 q → T'.heap[q]? = H[q]?) ∧ va_S A0 H0 T'.heap (locs ++ L) := by
  obtain ⟨hz, hk⟩ := hF
  rw [h0] at hz hk
  exact ⟨by rw [e1]; exact hz, fun q h1 h2 => by rw [e1]; exact hk q h1 h2,
    ⟨Nat.le_trans hS.1 (by rw [e1]; exact hz), fun q h1 h2 => by rw [e1, hk q (Nat.lt_of_lt_of_le h1 hS.1) (fun z => h2 (hA q (Nat.lt_of_lt_of_le h1 hS.1) z))]; exact hS.2.1 q h1 h2, fun q hq => by
      rcases List.mem_append.mp hq with h | h
      · exact hS.2.2 q h
      · exact hf _ (hL q h)⟩⟩
theorem vx_calli {S SX : Type} {post : Int32 → S → Prop} {px : SX → Prop} {B : S → State → Prop} {BX : String → SX → State → Prop} {AX : Nat → Prop} (hr : vx_Run p l e R s m args below meth c H locs cells slots mc ms (F0 m pc ls st0) rest (va_Qi post B A1 a) (vx_X px BX AX) free) (hS : va_S A0 H0 H locs) (hA : ∀ q, q < H.size → A1 q → A0 q) (hf : ∀ q, free q → A0 q) (hAX : ∀ q, q < H.size → AX q → A0 q)
    (kx : ∀ (E : String) (ce : Cell) (q9 : Addr) (u : SX) (t : State) (H1 : Heap) (locs1 : List Loc), t.heap = H1 → s.vm.Alike t.vm → px u → BX E u t → H.size ≤ H1.size → (∀ q : Nat, q < H.size → ¬ AX q → H1[q]? = H[q]?) → va_S A0 H0 H1 locs1 → H1[q9]? = some ce → ce.vm = .none → s.vm.findClass E = some ce.cls → vx_W p l e R s m args below meth c H1 locs1 (cells + mc) (slots + ms) Q (F0 m pc ls rest) q9)
    (kk : ∀ (r : Int32) (u : S) (t : State) (H1 : Heap) (locs1 : List Loc), t.heap = H1 → s.vm.Alike t.vm → post r u → B u t → H.size ≤ H1.size → (∀ q : Nat, q < H.size → ¬ A1 q → H1[q]? = H[q]?) → va_S A0 H0 H1 locs1 → W p l e R s m args below meth c H1 locs1 (cells + mc) (slots + ms) Q (F0 m (pc + 3) ls (.int r :: rest))) : W p l e R s m args below meth c H locs cells slots Q (F0 m pc ls st0) := by
  intro T hT X
  rcases hr T hT X with ⟨v, st₀, t, T', L, h0, X', hL, e1, e2, ⟨⟨r, u, hv, hp, hb⟩, hF⟩, st⟩ | ⟨q, st₀, t, T', L, E, ce, h0, X', hL, e1, e2, ⟨u, hp, hb, hF⟩, hce, hcv, hcl, st⟩
  · cases hv
    obtain ⟨k1, k2, k3⟩ := vx_keep h0 e1 hS hA hf hL hF
    obtain ⟨t2, a1, b1⟩ := kk r u t T'.heap (locs ++ L) e1.symm (by rw [← e2]; exact X'.warmed.alike) hp hb k1 k2 k3 T' rfl X'
    exact ⟨t2, st t2 a1, b1⟩
  · obtain ⟨k1, k2, k3⟩ := vx_keep h0 e1 hS hAX hf hL hF
    obtain ⟨t2, a1, b1⟩ := kx E ce q u t T'.heap (locs ++ L) e1.symm (by rw [← e2]; exact X'.warmed.alike) hp hb k1 k2 k3 (by rw [e1]; exact hce) hcv hcl T' rfl X'
    exact ⟨t2, st.trans a1, b1⟩
theorem vx_calll {S SX : Type} {post : Int64 → S → Prop} {px : SX → Prop} {B : S → State → Prop} {BX : String → SX → State → Prop} {AX : Nat → Prop} (hr : vx_Run p l e R s m args below meth c H locs cells slots mc ms (F0 m pc ls st0) rest (va_Ql post B A1 a) (vx_X px BX AX) free) (hS : va_S A0 H0 H locs) (hA : ∀ q, q < H.size → A1 q → A0 q) (hf : ∀ q, free q → A0 q) (hAX : ∀ q, q < H.size → AX q → A0 q)
    (kx : ∀ (E : String) (ce : Cell) (q9 : Addr) (u : SX) (t : State) (H1 : Heap) (locs1 : List Loc), t.heap = H1 → s.vm.Alike t.vm → px u → BX E u t → H.size ≤ H1.size → (∀ q : Nat, q < H.size → ¬ AX q → H1[q]? = H[q]?) → va_S A0 H0 H1 locs1 → H1[q9]? = some ce → ce.vm = .none → s.vm.findClass E = some ce.cls → vx_W p l e R s m args below meth c H1 locs1 (cells + mc) (slots + ms) Q (F0 m pc ls rest) q9)
    (kk : ∀ (r : Int64) (u : S) (t : State) (H1 : Heap) (locs1 : List Loc), t.heap = H1 → s.vm.Alike t.vm → post r u → B u t → H.size ≤ H1.size → (∀ q : Nat, q < H.size → ¬ A1 q → H1[q]? = H[q]?) → va_S A0 H0 H1 locs1 → W p l e R s m args below meth c H1 locs1 (cells + mc) (slots + ms) Q (F0 m (pc + 3) ls (.long r :: rest))) : W p l e R s m args below meth c H locs cells slots Q (F0 m pc ls st0) := by
  intro T hT X
  rcases hr T hT X with ⟨v, st₀, t, T', L, h0, X', hL, e1, e2, ⟨⟨r, u, hv, hp, hb⟩, hF⟩, st⟩ | ⟨q, st₀, t, T', L, E, ce, h0, X', hL, e1, e2, ⟨u, hp, hb, hF⟩, hce, hcv, hcl, st⟩
  · cases hv
    obtain ⟨k1, k2, k3⟩ := vx_keep h0 e1 hS hA hf hL hF
    obtain ⟨t2, a1, b1⟩ := kk r u t T'.heap (locs ++ L) e1.symm (by rw [← e2]; exact X'.warmed.alike) hp hb k1 k2 k3 T' rfl X'
    exact ⟨t2, st t2 a1, b1⟩
  · obtain ⟨k1, k2, k3⟩ := vx_keep h0 e1 hS hAX hf hL hF
    obtain ⟨t2, a1, b1⟩ := kx E ce q u t T'.heap (locs ++ L) e1.symm (by rw [← e2]; exact X'.warmed.alike) hp hb k1 k2 k3 (by rw [e1]; exact hce) hcv hcl T' rfl X'
    exact ⟨t2, st.trans a1, b1⟩
theorem vx_callf {S SX : Type} {post : UInt32 → S → Prop} {px : SX → Prop} {B : S → State → Prop} {BX : String → SX → State → Prop} {AX : Nat → Prop} (hr : vx_Run p l e R s m args below meth c H locs cells slots mc ms (F0 m pc ls st0) rest (va_Qf post B A1 a) (vx_X px BX AX) free) (hS : va_S A0 H0 H locs) (hA : ∀ q, q < H.size → A1 q → A0 q) (hf : ∀ q, free q → A0 q) (hAX : ∀ q, q < H.size → AX q → A0 q)
    (kx : ∀ (E : String) (ce : Cell) (q9 : Addr) (u : SX) (t : State) (H1 : Heap) (locs1 : List Loc), t.heap = H1 → s.vm.Alike t.vm → px u → BX E u t → H.size ≤ H1.size → (∀ q : Nat, q < H.size → ¬ AX q → H1[q]? = H[q]?) → va_S A0 H0 H1 locs1 → H1[q9]? = some ce → ce.vm = .none → s.vm.findClass E = some ce.cls → vx_W p l e R s m args below meth c H1 locs1 (cells + mc) (slots + ms) Q (F0 m pc ls rest) q9)
    (kk : ∀ (r : UInt32) (u : S) (t : State) (H1 : Heap) (locs1 : List Loc), t.heap = H1 → s.vm.Alike t.vm → post r u → B u t → H.size ≤ H1.size → (∀ q : Nat, q < H.size → ¬ A1 q → H1[q]? = H[q]?) → va_S A0 H0 H1 locs1 → W p l e R s m args below meth c H1 locs1 (cells + mc) (slots + ms) Q (F0 m (pc + 3) ls (.float r :: rest))) : W p l e R s m args below meth c H locs cells slots Q (F0 m pc ls st0) := by
  intro T hT X
  rcases hr T hT X with ⟨v, st₀, t, T', L, h0, X', hL, e1, e2, ⟨⟨r, u, hv, hp, hb⟩, hF⟩, st⟩ | ⟨q, st₀, t, T', L, E, ce, h0, X', hL, e1, e2, ⟨u, hp, hb, hF⟩, hce, hcv, hcl, st⟩
  · cases hv
    obtain ⟨k1, k2, k3⟩ := vx_keep h0 e1 hS hA hf hL hF
    obtain ⟨t2, a1, b1⟩ := kk r u t T'.heap (locs ++ L) e1.symm (by rw [← e2]; exact X'.warmed.alike) hp hb k1 k2 k3 T' rfl X'
    exact ⟨t2, st t2 a1, b1⟩
  · obtain ⟨k1, k2, k3⟩ := vx_keep h0 e1 hS hAX hf hL hF
    obtain ⟨t2, a1, b1⟩ := kx E ce q u t T'.heap (locs ++ L) e1.symm (by rw [← e2]; exact X'.warmed.alike) hp hb k1 k2 k3 (by rw [e1]; exact hce) hcv hcl T' rfl X'
    exact ⟨t2, st.trans a1, b1⟩
theorem vx_calld {S SX : Type} {post : UInt64 → S → Prop} {px : SX → Prop} {B : S → State → Prop} {BX : String → SX → State → Prop} {AX : Nat → Prop} (hr : vx_Run p l e R s m args below meth c H locs cells slots mc ms (F0 m pc ls st0) rest (va_Qd post B A1 a) (vx_X px BX AX) free) (hS : va_S A0 H0 H locs) (hA : ∀ q, q < H.size → A1 q → A0 q) (hf : ∀ q, free q → A0 q) (hAX : ∀ q, q < H.size → AX q → A0 q)
    (kx : ∀ (E : String) (ce : Cell) (q9 : Addr) (u : SX) (t : State) (H1 : Heap) (locs1 : List Loc), t.heap = H1 → s.vm.Alike t.vm → px u → BX E u t → H.size ≤ H1.size → (∀ q : Nat, q < H.size → ¬ AX q → H1[q]? = H[q]?) → va_S A0 H0 H1 locs1 → H1[q9]? = some ce → ce.vm = .none → s.vm.findClass E = some ce.cls → vx_W p l e R s m args below meth c H1 locs1 (cells + mc) (slots + ms) Q (F0 m pc ls rest) q9)
    (kk : ∀ (r : UInt64) (u : S) (t : State) (H1 : Heap) (locs1 : List Loc), t.heap = H1 → s.vm.Alike t.vm → post r u → B u t → H.size ≤ H1.size → (∀ q : Nat, q < H.size → ¬ A1 q → H1[q]? = H[q]?) → va_S A0 H0 H1 locs1 → W p l e R s m args below meth c H1 locs1 (cells + mc) (slots + ms) Q (F0 m (pc + 3) ls (.double r :: rest))) : W p l e R s m args below meth c H locs cells slots Q (F0 m pc ls st0) := by
  intro T hT X
  rcases hr T hT X with ⟨v, st₀, t, T', L, h0, X', hL, e1, e2, ⟨⟨r, u, hv, hp, hb⟩, hF⟩, st⟩ | ⟨q, st₀, t, T', L, E, ce, h0, X', hL, e1, e2, ⟨u, hp, hb, hF⟩, hce, hcv, hcl, st⟩
  · cases hv
    obtain ⟨k1, k2, k3⟩ := vx_keep h0 e1 hS hA hf hL hF
    obtain ⟨t2, a1, b1⟩ := kk r u t T'.heap (locs ++ L) e1.symm (by rw [← e2]; exact X'.warmed.alike) hp hb k1 k2 k3 T' rfl X'
    exact ⟨t2, st t2 a1, b1⟩
  · obtain ⟨k1, k2, k3⟩ := vx_keep h0 e1 hS hAX hf hL hF
    obtain ⟨t2, a1, b1⟩ := kx E ce q u t T'.heap (locs ++ L) e1.symm (by rw [← e2]; exact X'.warmed.alike) hp hb k1 k2 k3 (by rw [e1]; exact hce) hcv hcl T' rfl X'
    exact ⟨t2, st.trans a1, b1⟩
theorem vx_callv {S SX : Type} {post : S → Prop} {px : SX → Prop} {B : S → State → Prop} {BX : String → SX → State → Prop} {AX : Nat → Prop} (hr : vx_Run p l e R s m args below meth c H locs cells slots mc ms (F0 m pc ls st0) rest (va_Qv post B A1 a) (vx_X px BX AX) free) (hS : va_S A0 H0 H locs) (hA : ∀ q, q < H.size → A1 q → A0 q) (hf : ∀ q, free q → A0 q) (hAX : ∀ q, q < H.size → AX q → A0 q)
    (kx : ∀ (E : String) (ce : Cell) (q9 : Addr) (u : SX) (t : State) (H1 : Heap) (locs1 : List Loc), t.heap = H1 → s.vm.Alike t.vm → px u → BX E u t → H.size ≤ H1.size → (∀ q : Nat, q < H.size → ¬ AX q → H1[q]? = H[q]?) → va_S A0 H0 H1 locs1 → H1[q9]? = some ce → ce.vm = .none → s.vm.findClass E = some ce.cls → vx_W p l e R s m args below meth c H1 locs1 (cells + mc) (slots + ms) Q (F0 m pc ls rest) q9)
    (kk : ∀ (u : S) (t : State) (H1 : Heap) (locs1 : List Loc), t.heap = H1 → s.vm.Alike t.vm → post u → B u t → H.size ≤ H1.size → (∀ q : Nat, q < H.size → ¬ A1 q → H1[q]? = H[q]?) → va_S A0 H0 H1 locs1 → W p l e R s m args below meth c H1 locs1 (cells + mc) (slots + ms) Q (F0 m (pc + 3) ls (rest))) : W p l e R s m args below meth c H locs cells slots Q (F0 m pc ls st0) := by
  intro T hT X
  rcases hr T hT X with ⟨v, st₀, t, T', L, h0, X', hL, e1, e2, ⟨⟨u, hv, hp, hb⟩, hF⟩, st⟩ | ⟨q, st₀, t, T', L, E, ce, h0, X', hL, e1, e2, ⟨u, hp, hb, hF⟩, hce, hcv, hcl, st⟩
  · cases hv
    obtain ⟨k1, k2, k3⟩ := vx_keep h0 e1 hS hA hf hL hF
    obtain ⟨t2, a1, b1⟩ := kk u t T'.heap (locs ++ L) e1.symm (by rw [← e2]; exact X'.warmed.alike) hp hb k1 k2 k3 T' rfl X'
    exact ⟨t2, st t2 a1, b1⟩
  · obtain ⟨k1, k2, k3⟩ := vx_keep h0 e1 hS hAX hf hL hF
    obtain ⟨t2, a1, b1⟩ := kx E ce q u t T'.heap (locs ++ L) e1.symm (by rw [← e2]; exact X'.warmed.alike) hp hb k1 k2 k3 (by rw [e1]; exact hce) hcv hcl T' rfl X'
    exact ⟨t2, st.trans a1, b1⟩
/-- caught by the row x of this method's table; the rows ahead don't take it -/
theorem vx_catch {own name : String} {E : String} {ce : Cell} {q : Addr} (hown : s.vm.findClass own = some m.cls) (pre : List ExceptionTableEntry) (x : ExceptionTableEntry) (suf : List ExceptionTableEntry) (hsplit : c.exceptionTable.toList = pre ++ x :: suf)
    (hpass : ∀ z ∈ pre, covers z pc = false ∨ (z.catchType ≠ 0 ∧ ∃ nm : String, (Cond.classLink own z.catchType nm).before args s = true ∧ va_Nc E nm s)) (hx : covers x pc = true) (h0 : x.catchType ≠ 0)
    (hlink : (Cond.classLink own x.catchType name).before args s = true) (hcast : (Cond.castable E name).before args s = true) (hcell : H[q]? = some ce) (hv : ce.vm = .none) (hcl : s.vm.findClass E = some ce.cls)
    (kk : W p l e R s m args below meth c H locs cells slots Q (F0 m x.handlerPc ls [.ref q])) : vx_W p l e R s m args below meth c H locs cells slots Q (F0 m pc ls rest) q := by
  intro T hT X
  have hpl : e.platform.magicAccessors = ({} : Platform).magicAccessors := by rw [X.admits.platform]
  obtain ⟨c3, c4, hc3, hc4, hasg⟩ := Cond.castable_spec hcast
  cases Option.some.inj (hc3.symm.trans hcl)
  obtain ⟨c5, hc5, hcl5⟩ := Cond.classLink_spec hown hlink e.platform hpl
  cases Option.some.inj (hc4.symm.trans hc5)
  obtain ⟨vm', X', st⟩ := X.thenCaughtThrough q (g := F0 m pc ls rest) rfl (Steps.refl _) (by rw [hT]; exact hcell) (by rw [hv]; rfl) (by obtain ⟨k9, h9, -⟩ := Vm.findClass_spec hcl; exact ⟨k9, h9⟩) pre x suf hsplit
    (fun z hz => by
      rcases hpass z hz with h | ⟨hz0, nm, hl1, hn1⟩
      · exact Or.inl h
      · obtain ⟨c6, hc6, hcl6⟩ := Cond.classLink_spec hown hl1 e.platform hpl
        obtain ⟨a8, b8, h1, h2, h3⟩ := hn1
        cases Option.some.inj (h1.symm.trans hcl)
        cases Option.some.inj (h2.symm.trans hc6)
        exact Or.inr ⟨hz0, _, hcl6, h3⟩) hx (Or.inr ⟨h0, c4, hcl5, hasg⟩)
  obtain ⟨t, a1, b1⟩ := kk (T.setVm vm') hT X'
  exact ⟨t, st.trans a1, b1⟩
end Rows
section Ends
variable {p : Program} {l : Launch} {e : Env} {R : Room} {s : State} {m : MethodId} {args : Array Value} {below : List Frame} {meth : Method} {c : Code} {H : Heap} {locs : List Loc} {cells slots : Nat} {Q : State → Prop}
variable {mc ms : Nat} {free : Addr → Prop} {A0 A1 : Nat → Prop} {H0 : Heap} {a : Array Value} {ls : Array Slot} {st0 rest : List Value}
variable {Qc : Array Value → State → Outcome → State → Prop} {XC : String → State → State → Prop}
/-- what a body that may throw owes at its end -/
def vx_MQ (below : List Frame) (Qc : Array Value → State → Outcome → State → Prop) (XC : String → State → State → Prop) (a : Array Value) (s : State) (mc ms : Nat) (free : Addr → Prop) : State → Prop := fun t =>
  ∃ o, t.status = .running ∧ Ended t below o ∧ vx_Q Qc XC mc ms free a s o t
theorem vx_ret {g : JFrame} {mc ms : Nat} (k : W p l e R s m args below meth c H locs cells slots (MQ below Qc args s mc ms free) g) : W p l e R s m args below meth c H locs cells slots (vx_MQ below Qc XC args s mc ms free) g := by
  intro T hT X
  obtain ⟨t, a1, o, b1, b2, b3, b4⟩ := k T hT X
  exact ⟨t, a1, o, b1, b2, Or.inl ⟨b3, b4⟩⟩
/-- not caught here: it goes on to the caller -/
theorem vx_widen {g : JFrame} {q : Addr} {k n : Nat} (h1 : cells ≤ k) (h2 : slots ≤ n) (kk : vx_W p l e R s m args below meth c H locs k n Q g q) : vx_W p l e R s m args below meth c H locs cells slots Q g q := fun T hT X => kk T hT (stand_widen X h1 h2)
theorem vx_out {pc : Nat} {E : String} {ce : Cell} {q : Addr} {mc ms : Nat} (hout : ∀ x ∈ c.exceptionTable.toList, covers x pc = false) (hlocks : meth.locks = false) (hcell : H[q]? = some ce) (hv : ce.vm = .none) (hcl : s.vm.findClass E = some ce.cls)
    (hx : ∀ t : State, t.heap = H → s.vm.Alike t.vm → XC E s t) (hf : ∀ z ∈ locs, free z.base) (hc : cells ≤ mc) (hs : slots ≤ ms) :
    vx_W p l e R s m args below meth c H locs cells slots (vx_MQ below Qc XC args s mc ms free) (F0 m pc ls rest) q := by
  intro T hT X
  obtain ⟨st1, hrun, hend, hW, hsm⟩ := X.leaveThrown q (g := F0 m pc ls rest) rfl rfl rfl hout hlocks
  have hcell9 : (T.setFrames (.throwing q :: below)).heap[q]? = some ce := by
    show T.heap[q]? = some ce
    rw [hT]; exact hcell
  exact ⟨_, st1, .threw q, hrun, hend, Or.inr ⟨q, rfl, E, ce, locs, hx _ hT hW.alike, hcell9, hv, hcl, hW, hsm.mono hc hs, hf⟩⟩
theorem vx_frame {U : State} {k n : Nat} (h : s.sameButNew ({ U with vm := s.vm } : State) locs k n) : s.heap.size ≤ U.heap.size ∧ ∀ q : Nat, q < s.heap.size → (∀ z ∈ locs, z.base ≠ q) → U.heap[q]? = s.heap[q]? := by
  obtain ⟨-, h2, -, -, -, h6⟩ := h
  refine ⟨h2, fun q hq hz => ?_⟩
  obtain ⟨c9, e1, e2, e3, e4⟩ := h6 q _ (Array.getElem?_eq_getElem hq)
  have hs : c9.slots = (s.heap[q]).slots := Array.ext_getElem? fun i => e4 i fun hm => hz _ hm rfl
  have h9 : c9 = s.heap[q] := by
    rw [hs] at e2
    exact e2
  have e5 : U.heap[q]? = some c9 := e1
  rw [e5, h9, Array.getElem?_eq_getElem hq]
/-- the words of a throw but the four that speak of the heap -/
def vx_no (w : Cond) : Bool := decide (w ≠ .isRef (.static Bundle.tN "UNASSIGNED_STACK" Bundle.steD)) && decide (w ≠ .isRef (.static Bundle.tN "SUPPRESSED_SENTINEL" Bundle.listD)) && decide (w ≠ .laysStatic Bundle.tN "UNASSIGNED_STACK" Bundle.steD) && decide (w ≠ .laysStatic Bundle.tN "SUPPRESSED_SENTINEL" Bundle.listD)
def vx_at0 (own : String) (ic : Nat) (X : String) (names : List String) : List Cond := (Bundle.ownAtoms0 own ic X names).filter vx_no
def vx_atS (own : String) (ic : Nat) (X : String) (names : List String) : List Cond := (Bundle.ownAtoms own ic X names).filter vx_no
/-- a word that the tables alone decide, or a good one -/
def vx_ot (w : Cond) : Bool := w.onTables || goodWord w
theorem vx_ot_at {args a' : Array Value} {s U : State} {w : Cond} (hW : s.WarmedH U.vm) (hvm : s.vm = U.vm) (hg : vx_ot w = true) (h : w.before args s = true) : w.before a' U = true := by
  simp only [vx_ot, Bool.or_eq_true] at hg
  rcases hg with hg | hg
  · exact va_tabs hg hvm h
  · exact word_at hW (good_of_word hg) h
/-- a list's words: the good ones out of the method's own list, the others by premises of their own -/
theorem vx_hat {args : Array Value} {s : State} {L B : List Cond} (h1 : ∀ w ∈ L.filter goodWord, w.before args s = true) (h2 : ∀ w ∈ L.filter (fun w => !goodWord w), w ∈ B) (h3 : ∀ w ∈ B, w.before args s = true) : ∀ w ∈ L, w.before args s = true := by
  intro w hw
  by_cases g : goodWord w = true
  · exact h1 w (List.mem_filter.mpr ⟨hw, g⟩)
  · refine h3 w (h2 w (List.mem_filter.mpr ⟨hw, ?_⟩))
    show (!goodWord w) = true
    cases hgw : goodWord w
    · rfl
    · exact absurd hgw g
theorem vx_c {args : Array Value} {s : State} {w : Cond} {B : List Cond} (h : w.before args s = true) (t : ∀ w ∈ B, w.before args s = true) : ∀ w' ∈ w :: B, w'.before args s = true := fun w' h' => (List.mem_cons.mp h').elim (fun e => by rw [e]; exact h) (t w')
theorem vx_n {args : Array Value} {s : State} : ∀ w ∈ ([] : List Cond), w.before args s = true := fun _ h => nomatch h
theorem vx_own {args : Array Value} {s : State} {L : List Cond} (h1 : ∀ w ∈ L.filter vx_no, w.before args s = true)
    (hU : (Cond.isRef (.static Bundle.tN "UNASSIGNED_STACK" Bundle.steD)).before args s = true) (hN : (Cond.isRef (.static Bundle.tN "SUPPRESSED_SENTINEL" Bundle.listD)).before args s = true)
    (lU : (Cond.laysStatic Bundle.tN "UNASSIGNED_STACK" Bundle.steD).before args s = true) (lN : (Cond.laysStatic Bundle.tN "SUPPRESSED_SENTINEL" Bundle.listD).before args s = true) : ∀ w ∈ L, w.before args s = true := by
  intro w hw
  by_cases e1 : w = .isRef (.static Bundle.tN "UNASSIGNED_STACK" Bundle.steD)
  · rw [e1]; exact hU
  · by_cases e2 : w = .isRef (.static Bundle.tN "SUPPRESSED_SENTINEL" Bundle.listD)
    · rw [e2]; exact hN
    · by_cases e3 : w = .laysStatic Bundle.tN "UNASSIGNED_STACK" Bundle.steD
      · rw [e3]; exact lU
      · by_cases e4 : w = .laysStatic Bundle.tN "SUPPRESSED_SENTINEL" Bundle.listD
        · rw [e4]; exact lN
        · exact h1 w (List.mem_filter.mpr ⟨hw, by unfold vx_no; rw [decide_eq_true e1, decide_eq_true e2, decide_eq_true e3, decide_eq_true e4]; rfl⟩)
/-- where a static field lies, its class's statics cell in H -/
def vx_L (C n d : String) (A : Nat → Prop) (U : State) (H : Heap) : Prop := ∃ (c : ClassId) (k : Class) (i : Nat) (f : Field) (a : Nat) (cell : Cell), U.vm.findClass C = some c ∧ U.fieldFound? C n d = some (c, k, i, f) ∧ f.isStatic = true ∧ k.statics = some a ∧ H[a]? = some cell ∧ cell.vm.isStatics = true ∧ cell.cls = c ∧ f.slot < cell.slots.size ∧ k.staticTypes[f.slot]? = some f.type ∧ ¬ A a
theorem vx_L.moved {C n d : String} {A : Nat → Prop} {u U : State} {H : Heap} (hvm : u.vm.Alike U.vm) (h : vx_L C n d A u H) : vx_L C n d A U H := by
  obtain ⟨c, k, i, f, a, cell, h1, h2, h3, h4, h5, h6, h7, h8, h9, h10⟩ := h
  obtain ⟨k', hi', he⟩ := State.fieldFound?_setVm hvm h2
  exact ⟨c, k', i, f, a, cell, by rw [hvm.findClass]; exact h1, hi', h3, by rw [he]; exact h4, h5, h6, h7, h8, by rw [he]; exact h9, h10⟩
theorem vx_L.kept {C n d : String} {A : Nat → Prop} {U : State} {H H1 : Heap} (h : vx_L C n d A U H) (hq : ∀ a : Nat, a < H.size → ¬ A a → H1[a]? = H[a]?) : vx_L C n d A U H1 := by
  obtain ⟨c, k, i, f, a, cell, h1, h2, h3, h4, h5, h6, h7, h8, h9, h10⟩ := h
  exact ⟨c, k, i, f, a, cell, h1, h2, h3, h4, by rw [hq a (Array.getElem?_eq_some_iff.mp h5).1 h10]; exact h5, h6, h7, h8, h9, h10⟩
theorem vx_L.narrow {C n d : String} {A B : Nat → Prop} {U : State} {H : Heap} (h : vx_L C n d A U H) (hAB : ∀ q, B q → A q) : vx_L C n d B U H := by
  obtain ⟨c, k, i, f, a, cell, h1, h2, h3, h4, h5, h6, h7, h8, h9, h10⟩ := h
  exact ⟨c, k, i, f, a, cell, h1, h2, h3, h4, h5, h6, h7, h8, h9, fun z => h10 (hAB _ z)⟩
theorem vx_L.word {C n d : String} {A : Nat → Prop} {s : State} {args : Array Value} (h : vx_L C n d A s s.heap) : (Cond.laysStatic C n d).before args s = true := by
  obtain ⟨c, k, i, f, a, cell, h1, h2, h3, h4, h5, h6, h7, h8, h9, -⟩ := h
  show (Cond.laysStatic C n d).holds args s none s [] = true
  exact Cond.laysStatic_of h1 h2 h3 h4 h5 h6 h7 h8 h9
/-- .. and what it holds: null or some reference -/
def vx_Zq (C n d : String) (A : Nat → Prop) (U : State) (H : Heap) : Prop := va_Zq C n d A U H ∧ vx_L C n d A U H
theorem vx_Zq.moved {C n d : String} {A : Nat → Prop} {u U : State} {H : Heap} (hvm : u.vm.Alike U.vm) (h : vx_Zq C n d A u H) : vx_Zq C n d A U H := ⟨va_Zq.moved hvm h.1, vx_L.moved hvm h.2⟩
theorem vx_Zq.kept {C n d : String} {A : Nat → Prop} {U : State} {H H1 : Heap} (h : vx_Zq C n d A U H) (hq : ∀ a : Nat, a < H.size → ¬ A a → H1[a]? = H[a]?) : vx_Zq C n d A U H1 := ⟨va_Zq.kept h.1 hq, vx_L.kept h.2 hq⟩
theorem vx_Zq.narrow {C n d : String} {A B : Nat → Prop} {U : State} {H : Heap} (h : vx_Zq C n d A U H) (hAB : ∀ q, B q → A q) : vx_Zq C n d B U H := ⟨va_Zq.narrow h.1 hAB, vx_L.narrow h.2 hAB⟩
theorem vx_Zqof {args : Array Value} {s : State} {C n d : String} {A : Nat → Prop} (hl : (Cond.laysStatic C n d).before args s = true) (hini : (Cond.initialized C).before args s = true) (h : (Cond.isRef (.static C n d)).before args s = true) (hA : ∀ a : Nat, a < s.heap.size → ¬ A a) : vx_Zq C n d A s s.heap := by
  refine ⟨va_Zqof hl hini h hA, ?_⟩
  obtain ⟨c, k, i, f, a, cell, h1, h2, h3, h4, h5, h6, h7, h8, h9⟩ := Cond.laysStatic_spec hl
  exact ⟨c, k, i, f, a, cell, h1, h2, h3, h4, h5, h6, h7, h8, h9, hA a (Array.getElem?_eq_some_iff.mp h5).1⟩
theorem vx_isRef {C n d : String} {v : Value} {A : Nat → Prop} {s : State} {args : Array Value} (h : va_Z C n d v A s s.heap) (hv : v.isRef = true) : (Cond.isRef (.static C n d)).before args s = true := by
  obtain ⟨cf, kf, fi, f, a, cell, h1, h2, h3, h4, h5, h6, h7, -⟩ := h
  have he : (Term.static C n d).eval args s none [] s = some v := by
    simp [Term.eval, State.fieldNamed?, h1, h2, h4, h5, h6, h7]
  simp only [Cond.before, Cond.holds, Cond.value, he]
  cases v <;> simp_all [Value.isRef]
theorem vx_isRefq {C n d : String} {A : Nat → Prop} {s : State} {args : Array Value} (h : va_Zq C n d A s s.heap) : (Cond.isRef (.static C n d)).before args s = true := by
  rcases h with h | ⟨t, h⟩
  · exact vx_isRef h rfl
  · exact vx_isRef h rfl
/-- the same frame, seen from here: as if the method were called anew in this heap -/
theorem vx_rebase {T : State} (X : Stand p l e R s m args below meth c T locs cells slots) {R' : Room} (hf : R'.frames ≤ R.frames) (hl : R'.locals ≤ R.locals) (hc : cells + R'.cells ≤ R.cells) (hs : slots + R'.slots ≤ R.slots) :
    Stand p l e R' ((T.setVm s.vm).setFrames (.invoking m args :: below)) m args below meth c T [] 0 0 := by
  have htop : (T.setVm s.vm).topJava?.isSome := X.here.top
  have hF : ((T.setVm s.vm).setFrames (.invoking m args :: below)).frames = .invoking m args :: below := State.frames_setFrames _ (State.cur_lt_of_top htop)
  obtain ⟨g₀, hg0⟩ := Option.isSome_iff_exists.mp htop
  obtain ⟨r, hr⟩ := State.topJava?_eq_some.mp hg0
  have hl9 : e.platform.stackLimits (T.setVm s.vm).me = e.platform.stackLimits s.me := X.limits
  have hb9 : (T.setVm s.vm).me.stackBytes = s.me.stackBytes := X.bytes
  refine ⟨X.admits, X.cas, X.clock, hF, ?_, X.hears, X.method, X.code, X.here, X.tail, X.warmed, ?_, ?_, ?_⟩
  · have h := X.room
    have hU : ((T.setVm s.vm).setFrames (.invoking m args :: below)).localsInUse = s.localsInUse := by
      rw [State.localsInUse_invoking hF (meth := meth) (c := c) X.method X.code, State.localsInUse_invoking X.frames X.method X.code]
    simp only [State.hasRoom, Bool.and_eq_true, decide_eq_true_eq] at h ⊢
    obtain ⟨⟨⟨⟨h1, h2, h3, h4, h5, h6⟩, h7⟩, h8⟩, h9⟩ := h
    rw [X.frames, List.length_cons] at h2 h3
    have q1 := X.heapSize
    have q2 := X.used
    simp only [hF, hU, List.length_cons, State.stackLimits_setFrames, State.stackBytes_setFrames, hl9, hb9]
    refine ⟨⟨⟨⟨by omega, by omega, by omega, by omega, by omega, h6⟩, ?_⟩, ?_⟩, X.book⟩
    · show T.heap.size + R'.cells ≤ e.platform.maxCells
      omega
    · show T.slotsUsed + R'.slots ≤ e.platform.maxSlots
      omega
  · rw [State.stackLimits_setFrames]; rfl
  · rw [State.stackBytes_setFrames]; rfl
  · refine ⟨?_, Nat.le_refl _, Nat.le_refl _, ?_, ?_, fun a c9 h9 => ⟨c9, h9, rfl, rfl, fun _ _ => rfl⟩⟩
    · obtain ⟨t, ht, -⟩ := State.frames_cons hr
      show T.setVm s.vm = { ((T.setVm s.vm).setFrames (.invoking m args :: below)).setFrames (T.setVm s.vm).frames with heap := T.heap, slotsUsed := T.slotsUsed }
      rw [State.setFrames_setFrames, State.setFrames_self ht]
      rfl
    · show T.slotsUsed = T.slotsUsed + ((T.heap.toList.drop T.heap.size).map (·.slots.size)).sum
      rw [List.drop_eq_nil_of_le (Nat.le_of_eq Array.length_toList)]
      rfl
    · show ((T.heap.toList.drop T.heap.size).map (·.slots.size)).sum ≤ 0
      rw [List.drop_eq_nil_of_le (Nat.le_of_eq Array.length_toList)]
      exact Nat.le_refl _
/-- 'throw new E()': new; dup; invokespecial; athrow -/
theorem vx_throw0 {cc : ByteArray} {pc : Nat} (hexec : p.tables.exec = Jvm.exec) (hb : c.code = cc) (hl : l.stackTraces = false) {own cls : String} {names : List String} {ik ic mc ms : Nat} {A : Nat → Prop}
    (hown : s.vm.findClass own = some m.cls) (hcls : Bundle.fit cls = true) (hnames : ∀ n ∈ names, Bundle.fit n = true)
    (hk : (Cond.classLink own ik cls).before args s = true) (hini : (Cond.initialized cls).before args s = true) (hat : ∀ w ∈ vx_at0 own ic cls names, w.before args s = true)
    (hgood : ∀ w ∈ Cond.classLink own ik cls :: Cond.initialized cls :: vx_at0 own ic cls names, vx_ot w = true)
    (hU : vx_Zq Bundle.tN "UNASSIGNED_STACK" Bundle.steD A s s.heap) (hN : vx_Zq Bundle.tN "SUPPRESSED_SENTINEL" Bundle.listD A s s.heap) (hS : va_S A s.heap H locs) (hsize : ls.size = c.maxLocals)
    (d0 : decode cc pc = .ok (.new ik, 3)) (d3 : decode cc (pc + 3) = .ok (.dup, 1)) (d4 : decode cc (pc + 4) = .ok (.invokespecial ic, 3)) (d7 : decode cc (pc + 7) = .ok (.athrow, 1))
    (hout : ∀ x ∈ c.exceptionTable.toList, covers x (pc + 7) = false)
    (hRframes : names.length + 3 < R.frames) (hRlocals : (rest.map fun v => v.category).sum + (13 * (names.length + 1) + 42) ≤ R.locals) (hRcells : cells + 1 ≤ R.cells) (hRslots : slots + 6 ≤ R.slots) (hlocks : meth.locks = false)
    (hx : ∀ t : State, s.vm.Alike t.vm → H.size ≤ t.heap.size → (∀ q : Nat, q < H.size → t.heap[q]? = H[q]?) → XC cls s t)
    (hf : ∀ z ∈ locs, free z.base) (hc : cells + 1 ≤ mc) (hs : slots + 6 ≤ ms) :
    W p l e R s m args below meth c H locs cells slots (vx_MQ below Qc XC args s mc ms free) (F0 m pc ls rest) := by
  intro T hT X
  have htr : e.platform.stackTraces = false := (show e.platform.stackTraces = l.stackTraces by rw [X.admits.platform]).trans hl
  have Y := vx_rebase X (R' := { frames := R.frames, locals := R.locals, cells := 1, slots := 6 }) (Nat.le_refl _) (Nat.le_refl _) hRcells hRslots
  obtain ⟨s', hA⟩ : ∃ z, z = (T.setVm s.vm).setFrames (.invoking m args :: below) := ⟨_, rfl⟩
  rw [← hA] at Y
  have hvm : s'.vm = s.vm := by rw [hA]; rfl
  have hhp : s'.heap = H := by rw [hA]; exact hT
  have hW0 : s.WarmedH s'.vm := by rw [hvm]; exact State.WarmedH.refl s
  have hat' : ∀ w ∈ vx_at0 own ic cls names, w.before args s' = true := fun w hw => vx_ot_at hW0 hvm.symm (hgood w (List.mem_cons_of_mem _ (List.mem_cons_of_mem _ hw))) (hat w hw)
  have hk' : (Cond.classLink own ik cls).before args s' = true := vx_ot_at hW0 hvm.symm (hgood _ List.mem_cons_self) hk
  have hini' : (Cond.initialized cls).before args s' = true := vx_ot_at hW0 hvm.symm (hgood _ (List.mem_cons_of_mem _ List.mem_cons_self)) hini
  have hU' : vx_Zq Bundle.tN "UNASSIGNED_STACK" Bundle.steD A s' s'.heap := by rw [hhp]; exact vx_Zq.moved hW0.alike (hU.kept hS.2.1)
  have hN' : vx_Zq Bundle.tN "SUPPRESSED_SENTINEL" Bundle.listD A s' s'.heap := by rw [hhp]; exact vx_Zq.moved hW0.alike (hN.kept hS.2.1)
  have h : ∀ w ∈ Bundle.ownAtoms0 own ic cls names, w.before args s' = true := vx_own hat' (vx_isRefq hU'.1) (vx_isRefq hN'.1) hU'.2.word hN'.2.word
  have hown' : s'.vm.findClass own = some m.cls := by rw [hvm]; exact hown
  have hins : (Cond.instantiable cls 6).before args s' = true := h _ (by simp [Bundle.ownAtoms0])
  obtain ⟨vm₁, cX, kX, hfX, hkX, -, -, X₁, st1⟩ := Y.newCold hexec (own := own) (C := cls) (index := ik) (n := 6) hown' hk' hins hini'
    (g := F0 m pc ls rest) rfl (by rw [hb]; exact d0) (Nat.le_refl _) (Nat.le_refl _)
  generalize hT1 : (T.setVm vm₁).pushCell { cls := cX, slots := kX.instanceTypes.map defaultValue, vm := .none } = T1 at X₁ st1
  have hcat : (Value.ref T.heap.size).category = 1 := rfl
  have hcellA : T1.heap[T.heap.size]? = some (freshCell cX kX) := by rw [← hT1]; exact State.heap_pushCell_size _ _
  have d3' : decode c.code (pc + 3) = .ok (.dup, 1) := by rw [hb]; exact d3
  obtain ⟨U, hsteps, hrun, hend, hW, hsame, ce, hce, hO⟩ := X₁.ctorThrow0 hexec htr (own := own) (cls := cls) (names := names) (ic := ic) hown' hcls hnames h (fun x hx => nomatch hx) hfX hkX hcellA (by rw [hhp, hT]; exact Nat.le_refl _)
    (g := { method := m, pc := pc + 4, locals := ls, stack := .ref T.heap.size :: .ref T.heap.size :: rest, locked := none }) rfl hsize rfl rfl (rest := rest) rfl
    (by rw [hb]; exact d4) (by rw [hb]; exact d7) hout hRframes (by simp only [List.map_cons, List.sum_cons, hcat]; omega) hlocks
  obtain ⟨f1, f2⟩ := vx_frame hsame
  rw [hhp] at f1 f2
  have hWs : s.WarmedH U.vm := State.WarmedH.trans hW0 hW
  have hcl : s.vm.findClass cls = some ce.cls := by
    have h9 := hO.cls
    rw [hvm] at h9
    exact h9
  have hall : s.sameButNew ({ U with vm := s.vm } : State) locs mc ms := by
    subst hA
    obtain ⟨e1, e2⟩ := hsame
    rw [State.setFrames_setFrames] at e1
    have h2 : (T.setVm s.vm).sameButNew ({ U with vm := s.vm } : State) [] (0 + 1) (0 + 6) := ⟨e1, e2⟩
    have h3 := X.same.trans h2
    rw [List.append_nil] at h3
    exact h3.mono hc hs
  refine ⟨U, ?_, .threw T.heap.size, hrun, hend, Or.inr ⟨T.heap.size, rfl, cls, ce, locs, hx U hWs.alike f1 (fun q hq => f2 q hq (fun z hz => nomatch hz)), hce, hO.vm, hcl, hWs, hall, hf⟩⟩
  refine st1 _ ?_
  show Steps p.tables e below (T1.setTop { method := m, pc := pc + 3, locals := ls, stack := .ref T.heap.size :: rest, locked := none }) _
  jvm_step X₁.here [X₁.here.top, hexec, d3', Value.category]
  exact hsteps
/-- 'throw new E("text")': new; dup; ldc; invokespecial; athrow -/
theorem vx_throwS {cc : ByteArray} {pc : Nat} (hexec : p.tables.exec = Jvm.exec) (hb : c.code = cc) (hl : l.stackTraces = false) {own cls text : String} {names : List String} {ik is ic mc ms sa : Nat} {A : Nat → Prop}
    (hown : s.vm.findClass own = some m.cls) (hcls : Bundle.fit cls = true) (hnames : ∀ n ∈ names, Bundle.fit n = true)
    (hk : (Cond.classLink own ik cls).before args s = true) (hini : (Cond.initialized cls).before args s = true) (hstr : vk_R own is text sa s) (hat : ∀ w ∈ vx_atS own ic cls names, w.before args s = true)
    (hgood : ∀ w ∈ Cond.classLink own ik cls :: Cond.initialized cls :: vx_atS own ic cls names, vx_ot w = true)
    (hU : vx_Zq Bundle.tN "UNASSIGNED_STACK" Bundle.steD A s s.heap) (hN : vx_Zq Bundle.tN "SUPPRESSED_SENTINEL" Bundle.listD A s s.heap) (hS : va_S A s.heap H locs) (hsize : ls.size = c.maxLocals)
    (d0 : decode cc pc = .ok (.new ik, 3)) (d3 : decode cc (pc + 3) = .ok (.dup, 1)) (d4 : decode cc (pc + 4) = .ok (.ldc is, 2)) (d6 : decode cc (pc + 6) = .ok (.invokespecial ic, 3)) (d9 : decode cc (pc + 9) = .ok (.athrow, 1))
    (hout : ∀ x ∈ c.exceptionTable.toList, covers x (pc + 9) = false)
    (hRframes : names.length + 3 < R.frames) (hRlocals : (rest.map fun v => v.category).sum + (13 * (names.length + 1) + 43) ≤ R.locals) (hRcells : cells + 1 ≤ R.cells) (hRslots : slots + 6 ≤ R.slots) (hlocks : meth.locks = false)
    (hx : ∀ t : State, s.vm.Alike t.vm → H.size ≤ t.heap.size → (∀ q : Nat, q < H.size → t.heap[q]? = H[q]?) → XC cls s t)
    (hf : ∀ z ∈ locs, free z.base) (hc : cells + 1 ≤ mc) (hs : slots + 6 ≤ ms) :
    W p l e R s m args below meth c H locs cells slots (vx_MQ below Qc XC args s mc ms free) (F0 m pc ls rest) := by
  intro T hT X
  have htr : e.platform.stackTraces = false := (show e.platform.stackTraces = l.stackTraces by rw [X.admits.platform]).trans hl
  have Y := vx_rebase X (R' := { frames := R.frames, locals := R.locals, cells := 1, slots := 6 }) (Nat.le_refl _) (Nat.le_refl _) hRcells hRslots
  obtain ⟨s', hA⟩ : ∃ z, z = (T.setVm s.vm).setFrames (.invoking m args :: below) := ⟨_, rfl⟩
  rw [← hA] at Y
  have hvm : s'.vm = s.vm := by rw [hA]; rfl
  have hhp : s'.heap = H := by rw [hA]; exact hT
  have hW0 : s.WarmedH s'.vm := by rw [hvm]; exact State.WarmedH.refl s
  have hat' : ∀ w ∈ vx_atS own ic cls names, w.before args s' = true := fun w hw => vx_ot_at hW0 hvm.symm (hgood w (List.mem_cons_of_mem _ (List.mem_cons_of_mem _ hw))) (hat w hw)
  have hk' : (Cond.classLink own ik cls).before args s' = true := vx_ot_at hW0 hvm.symm (hgood _ List.mem_cons_self) hk
  have hini' : (Cond.initialized cls).before args s' = true := vx_ot_at hW0 hvm.symm (hgood _ (List.mem_cons_of_mem _ List.mem_cons_self)) hini
  have hU' : vx_Zq Bundle.tN "UNASSIGNED_STACK" Bundle.steD A s' s'.heap := by rw [hhp]; exact vx_Zq.moved hW0.alike (hU.kept hS.2.1)
  have hN' : vx_Zq Bundle.tN "SUPPRESSED_SENTINEL" Bundle.listD A s' s'.heap := by rw [hhp]; exact vx_Zq.moved hW0.alike (hN.kept hS.2.1)
  have h : ∀ w ∈ Bundle.ownAtoms own ic cls names, w.before args s' = true := vx_own hat' (vx_isRefq hU'.1) (vx_isRefq hN'.1) hU'.2.word hN'.2.word
  have hown' : s'.vm.findClass own = some m.cls := by rw [hvm]; exact hown
  have hins : (Cond.instantiable cls 6).before args s' = true := h _ (by simp [Bundle.ownAtoms])
  obtain ⟨vm₁, cX, kX, hfX, hkX, -, -, X₁, st1⟩ := Y.newCold hexec (own := own) (C := cls) (index := ik) (n := 6) hown' hk' hins hini'
    (g := F0 m pc ls rest) rfl (by rw [hb]; exact d0) (Nat.le_refl _) (Nat.le_refl _)
  generalize hT1 : (T.setVm vm₁).pushCell { cls := cX, slots := kX.instanceTypes.map defaultValue, vm := .none } = T1 at X₁ st1
  have hcat : (Value.ref T.heap.size).category = 1 := rfl
  have hcellA : T1.heap[T.heap.size]? = some (freshCell cX kX) := by rw [← hT1]; exact State.heap_pushCell_size _ _
  have d3' : decode c.code (pc + 3) = .ok (.dup, 1) := by rw [hb]; exact d3
  have d4' : decode c.code (pc + 4) = .ok (.ldc is, 2) := by rw [hb]; exact d4
  have hstr' : vk_R own is text sa s' := vk_R.warm hW0 hstr
  obtain ⟨U, hsteps, hrun, hend, hW, hsame, ce, hce, hO⟩ := X₁.ctorThrowS hexec htr (own := own) (cls := cls) (names := names) (ic := ic) hown' hcls hnames h (fun x hx => nomatch hx) hfX hkX hcellA (by rw [hhp, hT]; exact Nat.le_refl _) (msg := .ref sa) rfl
    (g := { method := m, pc := pc + 6, locals := ls, stack := .ref sa :: .ref T.heap.size :: .ref T.heap.size :: rest, locked := none }) rfl hsize rfl rfl (rest := rest) rfl
    (by rw [hb]; exact d6) (by rw [hb]; exact d9) hout hRframes (by simp only [List.map_cons, List.sum_cons, hcat]; omega) hlocks
  obtain ⟨f1, f2⟩ := vx_frame hsame
  rw [hhp] at f1 f2
  have hWs : s.WarmedH U.vm := State.WarmedH.trans hW0 hW
  have hcl : s.vm.findClass cls = some ce.cls := by
    have h9 := hO.cls
    rw [hvm] at h9
    exact h9
  have hall : s.sameButNew ({ U with vm := s.vm } : State) locs mc ms := by
    subst hA
    obtain ⟨e1, e2⟩ := hsame
    rw [State.setFrames_setFrames] at e1
    have h2 : (T.setVm s.vm).sameButNew ({ U with vm := s.vm } : State) [] (0 + 1) (0 + 6) := ⟨e1, e2⟩
    have h3 := X.same.trans h2
    rw [List.append_nil] at h3
    exact h3.mono hc hs
  refine ⟨U, ?_, .threw T.heap.size, hrun, hend, Or.inr ⟨T.heap.size, rfl, cls, ce, locs, hx U hWs.alike f1 (fun q hq => f2 q hq (fun z hz => nomatch hz)), hce, hO.vm, hcl, hWs, hall, hf⟩⟩
  refine st1 _ ?_
  show Steps p.tables e below (T1.setTop { method := m, pc := pc + 3, locals := ls, stack := .ref T.heap.size :: rest, locked := none }) _
  jvm_step X₁.here [X₁.here.top, hexec, d3', Value.category]
  exact X₁.ldcString hexec (own := own) (text := text) (index := is) (a := sa) hown' hstr'.1 hstr'.2
    (g := { method := m, pc := pc + 4, locals := ls, stack := .ref T.heap.size :: .ref T.heap.size :: rest, locked := none }) rfl d4' _ hsteps
/-- 'throw new E("text")', the text by a wide index -/
theorem vx_throwSW {cc : ByteArray} {pc : Nat} (hexec : p.tables.exec = Jvm.exec) (hb : c.code = cc) (hl : l.stackTraces = false) {own cls text : String} {names : List String} {ik is ic mc ms sa : Nat} {A : Nat → Prop}
    (hown : s.vm.findClass own = some m.cls) (hcls : Bundle.fit cls = true) (hnames : ∀ n ∈ names, Bundle.fit n = true)
    (hk : (Cond.classLink own ik cls).before args s = true) (hini : (Cond.initialized cls).before args s = true) (hstr : vk_R own is text sa s) (hat : ∀ w ∈ vx_atS own ic cls names, w.before args s = true)
    (hgood : ∀ w ∈ Cond.classLink own ik cls :: Cond.initialized cls :: vx_atS own ic cls names, vx_ot w = true)
    (hU : vx_Zq Bundle.tN "UNASSIGNED_STACK" Bundle.steD A s s.heap) (hN : vx_Zq Bundle.tN "SUPPRESSED_SENTINEL" Bundle.listD A s s.heap) (hS : va_S A s.heap H locs) (hsize : ls.size = c.maxLocals)
    (d0 : decode cc pc = .ok (.new ik, 3)) (d3 : decode cc (pc + 3) = .ok (.dup, 1)) (d4 : decode cc (pc + 4) = .ok (.ldc_w is, 3)) (d7 : decode cc (pc + 7) = .ok (.invokespecial ic, 3)) (d10 : decode cc (pc + 10) = .ok (.athrow, 1))
    (hout : ∀ x ∈ c.exceptionTable.toList, covers x (pc + 10) = false)
    (hRframes : names.length + 3 < R.frames) (hRlocals : (rest.map fun v => v.category).sum + (13 * (names.length + 1) + 43) ≤ R.locals) (hRcells : cells + 1 ≤ R.cells) (hRslots : slots + 6 ≤ R.slots) (hlocks : meth.locks = false)
    (hx : ∀ t : State, s.vm.Alike t.vm → H.size ≤ t.heap.size → (∀ q : Nat, q < H.size → t.heap[q]? = H[q]?) → XC cls s t)
    (hf : ∀ z ∈ locs, free z.base) (hc : cells + 1 ≤ mc) (hs : slots + 6 ≤ ms) :
    W p l e R s m args below meth c H locs cells slots (vx_MQ below Qc XC args s mc ms free) (F0 m pc ls rest) := by
  intro T hT X
  have htr : e.platform.stackTraces = false := (show e.platform.stackTraces = l.stackTraces by rw [X.admits.platform]).trans hl
  have Y := vx_rebase X (R' := { frames := R.frames, locals := R.locals, cells := 1, slots := 6 }) (Nat.le_refl _) (Nat.le_refl _) hRcells hRslots
  obtain ⟨s', hA⟩ : ∃ z, z = (T.setVm s.vm).setFrames (.invoking m args :: below) := ⟨_, rfl⟩
  rw [← hA] at Y
  have hvm : s'.vm = s.vm := by rw [hA]; rfl
  have hhp : s'.heap = H := by rw [hA]; exact hT
  have hW0 : s.WarmedH s'.vm := by rw [hvm]; exact State.WarmedH.refl s
  have hat' : ∀ w ∈ vx_atS own ic cls names, w.before args s' = true := fun w hw => vx_ot_at hW0 hvm.symm (hgood w (List.mem_cons_of_mem _ (List.mem_cons_of_mem _ hw))) (hat w hw)
  have hk' : (Cond.classLink own ik cls).before args s' = true := vx_ot_at hW0 hvm.symm (hgood _ List.mem_cons_self) hk
  have hini' : (Cond.initialized cls).before args s' = true := vx_ot_at hW0 hvm.symm (hgood _ (List.mem_cons_of_mem _ List.mem_cons_self)) hini
  have hU' : vx_Zq Bundle.tN "UNASSIGNED_STACK" Bundle.steD A s' s'.heap := by rw [hhp]; exact vx_Zq.moved hW0.alike (hU.kept hS.2.1)
  have hN' : vx_Zq Bundle.tN "SUPPRESSED_SENTINEL" Bundle.listD A s' s'.heap := by rw [hhp]; exact vx_Zq.moved hW0.alike (hN.kept hS.2.1)
  have h : ∀ w ∈ Bundle.ownAtoms own ic cls names, w.before args s' = true := vx_own hat' (vx_isRefq hU'.1) (vx_isRefq hN'.1) hU'.2.word hN'.2.word
  have hown' : s'.vm.findClass own = some m.cls := by rw [hvm]; exact hown
  have hins : (Cond.instantiable cls 6).before args s' = true := h _ (by simp [Bundle.ownAtoms])
  obtain ⟨vm₁, cX, kX, hfX, hkX, -, -, X₁, st1⟩ := Y.newCold hexec (own := own) (C := cls) (index := ik) (n := 6) hown' hk' hins hini'
    (g := F0 m pc ls rest) rfl (by rw [hb]; exact d0) (Nat.le_refl _) (Nat.le_refl _)
  generalize hT1 : (T.setVm vm₁).pushCell { cls := cX, slots := kX.instanceTypes.map defaultValue, vm := .none } = T1 at X₁ st1
  have hcat : (Value.ref T.heap.size).category = 1 := rfl
  have hcellA : T1.heap[T.heap.size]? = some (freshCell cX kX) := by rw [← hT1]; exact State.heap_pushCell_size _ _
  have d3' : decode c.code (pc + 3) = .ok (.dup, 1) := by rw [hb]; exact d3
  have d4' : decode c.code (pc + 4) = .ok (.ldc_w is, 3) := by rw [hb]; exact d4
  have hstr' : vk_R own is text sa s' := vk_R.warm hW0 hstr
  obtain ⟨U, hsteps, hrun, hend, hW, hsame, ce, hce, hO⟩ := X₁.ctorThrowS hexec htr (own := own) (cls := cls) (names := names) (ic := ic) hown' hcls hnames h (fun x hx => nomatch hx) hfX hkX hcellA (by rw [hhp, hT]; exact Nat.le_refl _) (msg := .ref sa) rfl
    (g := { method := m, pc := pc + 7, locals := ls, stack := .ref sa :: .ref T.heap.size :: .ref T.heap.size :: rest, locked := none }) rfl hsize rfl rfl (rest := rest) rfl
    (by rw [hb]; exact d7) (by rw [hb]; exact d10) hout hRframes (by simp only [List.map_cons, List.sum_cons, hcat]; omega) hlocks
  obtain ⟨f1, f2⟩ := vx_frame hsame
  rw [hhp] at f1 f2
  have hWs : s.WarmedH U.vm := State.WarmedH.trans hW0 hW
  have hcl : s.vm.findClass cls = some ce.cls := by
    have h9 := hO.cls
    rw [hvm] at h9
    exact h9
  have hall : s.sameButNew ({ U with vm := s.vm } : State) locs mc ms := by
    subst hA
    obtain ⟨e1, e2⟩ := hsame
    rw [State.setFrames_setFrames] at e1
    have h2 : (T.setVm s.vm).sameButNew ({ U with vm := s.vm } : State) [] (0 + 1) (0 + 6) := ⟨e1, e2⟩
    have h3 := X.same.trans h2
    rw [List.append_nil] at h3
    exact h3.mono hc hs
  refine ⟨U, ?_, .threw T.heap.size, hrun, hend, Or.inr ⟨T.heap.size, rfl, cls, ce, locs, hx U hWs.alike f1 (fun q hq => f2 q hq (fun z hz => nomatch hz)), hce, hO.vm, hcl, hWs, hall, hf⟩⟩
  refine st1 _ ?_
  show Steps p.tables e below (T1.setTop { method := m, pc := pc + 3, locals := ls, stack := .ref T.heap.size :: rest, locked := none }) _
  jvm_step X₁.here [X₁.here.top, hexec, d3', Value.category]
  exact X₁.ldcStringW hexec (own := own) (text := text) (index := is) (a := sa) hown' hstr'.1 hstr'.2
    (g := { method := m, pc := pc + 4, locals := ls, stack := .ref T.heap.size :: .ref T.heap.size :: rest, locked := none }) rfl d4' _ hsteps
end Ends
section Bodies
variable {l : Launch}
theorem vx_ofW {y : MethodName} {ws ws' : List Cond} {rm : Room} {Pc : Array Value → State → Prop} {Qc : Array Value → State → Outcome → State → Prop} {XC : String → State → State → Prop} {mc ms : Nat} {free : Addr → Prop} {cc : ByteArray} {maxL : Nat} {ret : Option FieldType}
    (hy : plainName y.cls = true) (hw : ws = Cond.code y cc maxL ret :: ws')
    (body : ∀ p e s m args below meth c s₁, BodyLoose p l y (headSpec ws rm) cc maxL ret e s m args below meth c s₁ → c.maxLocals = maxL → (∀ x ∈ c.exceptionTable.toList, False) → Pc args s →
      W p l e (headSpec ws rm).room s m args below meth c s.heap [] 0 0 (vx_MQ below Qc XC args s mc ms free) (entryFrame m args maxL)) : vx_Met l y ws rm Pc Qc XC mc ms free := by
  refine MetFree.of_bodyS (code := cc) (maxLocals := maxL) (ret := ret) hy ?_ ?_
  · intro args s m h hn
    obtain ⟨meth, c, h1, h2, h3, h4, h5, h6, -, -⟩ := Cond.code_spec hn (atoms_spec (ws := ws) h _ (by rw [hw]; exact List.mem_cons_self))
    exact ⟨meth, c, h1, h2, h3, h4, h5, h6⟩
  · intro p e s m args below meth c s₁ B hml hP _
    have hh0 : s₁.heap = s.heap := by rw [B.state]; rfl
    have ht : ∀ x ∈ c.exceptionTable.toList, False := by
      obtain ⟨meth9, c9, h1, h2, -, -, -, -, h7, -⟩ := Cond.code_spec B.named (atoms_spec (ws := ws) B.pre _ (by rw [hw]; exact List.mem_cons_self))
      cases Option.some.inj (h1.symm.trans B.method)
      cases Option.some.inj (h2.symm.trans (Stand.of_body B).code)
      intro x hx
      rw [Array.isEmpty_iff.mp h7] at hx
      cases hx
    obtain ⟨t, a1, o, b1, b2, b3⟩ := body p e s m args below meth c s₁ B hml ht hP s₁ hh0 (Stand.of_body B)
    exact ⟨t, o, a1, b1, b2, b3⟩
/-- the table of a body with handlers -/
theorem vx_table {p : Program} {x y : MethodName} {S : Spec} {cc bytes : ByteArray} {maxL maxL' : Nat} {ret ret' : Option FieldType} {e : Env} {s s₁ : State} {m : MethodId} {args : Array Value} {below : List Frame} {meth : Method} {c : Code} {hh : List (Nat × Nat × Nat × Nat)}
    (B : BodyLoose p l y S cc maxL ret e s m args below meth c s₁) (h : (Cond.codeWith y bytes maxL' ret' hh).before args s = true) : c.exceptionTable.toList = tableOf hh := by
  obtain ⟨m9, meth9, c9, hn9, h1, h2, -, -, h6, -⟩ := Cond.codeWith_spec h
  cases Option.some.inj (hn9.symm.trans B.named)
  cases Option.some.inj (h1.symm.trans B.method)
  cases Option.some.inj (h2.symm.trans (Stand.of_body B).code)
  rw [← h6, table_eq]
end Bodies
end VXA
/-! ===== END ===== -/
/-! ===== BEGIN a static call of a method with an exception table ===== -/
section VXS
variable {p : Program} {l : Launch} {e : Env} {R : Room} {s : State} {m : MethodId} {args : Array Value} {below : List Frame} {meth : Method} {c : Code} {T : State} {H : Heap} {locs : List Loc} {cells slots : Nat}
abbrev vx_CSW (R : Room) (s : State) (args : Array Value) (own : String) (index : Nat) (y : MethodName) (bytes : ByteArray) (maxL : Nat) (ret : Option FieldType) (hh : List (Nat × Nat × Nat × Nat)) (ws : List Cond) (rm : Room) (mc ms n : Nat) : Prop :=
  (rm.cells = mc ∧ rm.slots = ms ∧ rm.frames + 1 ≤ R.frames ∧ 8 + (maxL + 11) + rm.locals ≤ R.locals ∧ (∀ w ∈ ws, ∀ (a' : Array Value) (U : State), s.WarmedH U.vm → w.before a' U = true) ∧ Cond.codeWith y bytes maxL ret hh ∈ ws) ∧
  (Cond.codeWith y bytes maxL ret hh).before args s = true ∧ (Cond.initialized y.cls).before args s = true ∧ (y.cls ≠ "java/lang/invoke/MethodHandle" ∧ y.cls ≠ "java/lang/invoke/VarHandle") ∧
  (∀ sig, parseMethodDescriptor y.desc = some sig → n = sig.parameters.length) ∧ (Cond.methodLink own index y).before args s = true ∧ (Cond.static y).before args s = true
theorem vx_cwSW {own : String} {index maxL mc ms : Nat} {y : MethodName} {bytes : ByteArray} {ret : Option FieldType} {hh : List (Nat × Nat × Nat × Nat)} {Ts ws ws' : List Cond} {rm : Room} (n : Nat) (ht : ∀ w ∈ Ts, w.before args s = true) (hT : GoodIn Ts (va_wsS own index y ws)) (hw : ws = Cond.codeWith y bytes maxL ret hh :: ws') (hrc : rm.cells = mc) (hrs : rm.slots = ms)
    (hd : y.cls ≠ "java/lang/invoke/MethodHandle" ∧ y.cls ≠ "java/lang/invoke/VarHandle" ∧ (parseMethodDescriptor y.desc).map (fun d => d.parameters.length) = some n) (hR : rm.frames + 1 ≤ R.frames ∧ 8 + (maxL + 11) + rm.locals ≤ R.locals) :
    vx_CSW R s args own index y bytes maxL ret hh ws rm mc ms n := by
  have ok : ∀ w ∈ va_wsS own index y ws, w.before args s = true := fun w h => ht w (hT w h).1
  have hG : GoodIn Ts ws := fun w h => hT w (by unfold va_wsS; exact List.mem_append_right _ h)
  have hc : Cond.codeWith y bytes maxL ret hh ∈ ws := by rw [hw]; exact List.mem_cons_self
  refine ⟨⟨hrc, hrs, hR.1, hR.2, pay_in ht hG, hc⟩, ht _ (hG _ hc).1, ok _ (by simp [va_wsS]), ⟨hd.1, hd.2.1⟩, fun sig h => ?_, ok _ (by simp [va_wsS]), ok _ (by simp [va_wsS])⟩
  have h2 := hd.2.2
  rw [h] at h2
  exact (Option.some.inj h2).symm
theorem vx_callSW (X : Stand p l e R s m args below meth c T locs cells slots) (hexec : p.tables.exec = Jvm.exec) {own : String} {index : Nat} {y : MethodName} {bytes : ByteArray} {maxL : Nat} {ret : Option FieldType} {hh : List (Nat × Nat × Nat × Nat)}
    (hown : s.vm.findClass own = some m.cls) (hlink : (Cond.methodLink own index y).before args s = true) (hstat : (Cond.static y).before args s = true) (hinit : (Cond.initialized y.cls).before args s = true)
    (hcode : (Cond.codeWith y bytes maxL ret hh).before args s = true) (hy : y.cls ≠ "java/lang/invoke/MethodHandle" ∧ y.cls ≠ "java/lang/invoke/VarHandle")
    {W9 : Nat} {Pre : Pt → Array Value → Prop} {Post : Pt → Array Value → Option Value → Pt → Prop} (hK : Back l R p e below s args y 3 W9 Pre Post)
    {g : JFrame} (hg : g.method = m) (hsize : g.locals.size = c.maxLocals) {argsL rest : List Value} (hlen : ∀ sig, parseMethodDescriptor y.desc = some sig → argsL.length = sig.parameters.length)
    (hstack : g.stack = argsL.reverse ++ rest) (hW : 2 * g.monitorRoom + (rest.map fun v => v.category).sum ≤ W9) (hdg : decode c.code g.pc = .ok (.invokestatic index, 3))
    (hpre : ∀ vm₁, s.WarmedH vm₁ → Pre ⟨T.setVm vm₁, locs, cells, slots⟩ argsL.toArray) :
    ∃ (v : Option Value) (vm₁ : Vm) (B : Pt), s.WarmedH vm₁ ∧ Stand p l e R s m args below meth c B.U B.locs B.cells B.slots ∧ Post ⟨T.setVm vm₁, locs, cells, slots⟩ argsL.toArray v B ∧
      ∀ target, Steps p.tables e below (B.U.setTop { g with pc := g.pc + 3, stack := v.toList ++ rest }) target → Steps p.tables e below (T.setTop g) target := by
  obtain ⟨mk, methM, cM, hnamed, hmethM, -, -, -, -, -, -, hsigM⟩ := Cond.codeWith_spec hcode
  have hstatic : methM.isStatic = true := Cond.static_spec hnamed hmethM hstat
  obtain ⟨kP, hkP, -⟩ := className_of_methodNamed hnamed
  have hinitP : kP.init = .initialized := Cond.initialized_spec (findClass_of_methodNamed hnamed) hkP hinit
  obtain ⟨vm₁, X₁, hstep₁⟩ := X.invokestatic hexec hown hlink hnamed hmethM hstatic hkP hinitP hy (g := g) hg (argsL := argsL) (rest := rest) (hlen _ hsigM) hstack hdg
  obtain ⟨v, B, X', hpost, hsteps⟩ := hK m meth c ⟨T.setVm vm₁, locs, cells, slots⟩ { g with stack := rest } (.invokestatic index) mk argsL.toArray X₁ hg hsize hdg hW (X₁.named hnamed) (hpre vm₁ X₁.warmed)
  exact ⟨v, vm₁, B, X₁.warmed, X', hpost, fun target h => hstep₁ _ fun acts => by rw [doInvoke_state]; exact hsteps.trans h⟩
theorem vx_runSW {y : MethodName} {bytes cc : ByteArray} {maxL nL mc ms n index : Nat} {ret : Option FieldType} {hh : List (Nat × Nat × Nat × Nat)} {ws : List Cond} {rm : Room} {Pc : Array Value → State → Prop} {Qc : Array Value → State → Outcome → State → Prop} {free : Addr → Prop} {Ts : List Cond} {own : String} {As rest : List Value} {g : JFrame}
    (S : CallFix p m c cc nL s args Ts own) (hM : Met l y ws rm Pc Qc mc ms free) (cw : vx_CSW R s args own index y bytes maxL ret hh ws rm mc ms n) (hp : PreS s H Pc As)
    (hg : g.method = m) (hn : As.length = n) (hsize : g.locals.size = nL) (hstack : g.stack = As.reverse ++ rest) (hW : 2 * g.monitorRoom + (rest.map fun v => v.category).sum ≤ 8) (hdg : decode cc g.pc = .ok (.invokestatic index, 3)) (hf : cells + mc ≤ R.cells ∧ slots + ms ≤ R.slots) :
    va_Run p l e R s m args below meth c H locs cells slots mc ms g rest (Qc As.toArray) (free) := by
  obtain ⟨⟨hrc, hrs, hfr, hlo, hws, hcw⟩, hcode, hini, hy, hlen, hl, hstt⟩ := cw
  have hK : Back l R p e below s args y 3 8 (PreOf R mc ms Pc) (PostOf Qc mc ms free) := va_backW (hh := hh) (bytes := bytes) (maxL := maxL) (ret := ret) hM hp.1 hrc hrs hfr hlo hws hcw (fun a' U hW => word_at hW (Or.inl (by first | rfl | simp [Cond.onTables, Cond.keeps, Cond.steady])) hini)
  obtain ⟨hx, hb, hml, ho, -⟩ := S
  intro T hT X
  obtain ⟨v, vm₁, ⟨U', l2, c2, s2⟩, hW₁, X', ⟨g', mk, t, L, e1, e2, hq, h1, hL, h2, h3⟩, st⟩ := vx_callSW X hx (hh := hh) (bytes := bytes) (maxL := maxL) (ret := ret) ho hl hstt hini hcode hy hK hg (hsize.trans hml.symm) (argsL := As) (rest := rest) (fun sig h => hn.trans (hlen sig h)) hstack hW (by rw [hb]; exact hdg)
    (fun vm₁ hW₁ => ⟨hf.1, hf.2, hp.2 (T.setVm vm₁) hT hW₁⟩)
  dsimp only [Pt.U, Pt.locs, Pt.cells, Pt.slots] at X' e1 e2 h1 h2 h3 st
  subst h1; subst h2; subst h3
  exact ⟨v, (T.setVm vm₁).calling g' mk As.toArray, t, U', L, hT, X', hL, e1, e2, hq, st⟩
/-- not caught here, past rows that name other classes: it goes on to the caller -/
theorem vx_outP {p : Program} {l : Launch} {e : Env} {R : Room} {s : State} {m : MethodId} {args : Array Value} {below : List Frame} {meth : Method} {c : Code} {H : Heap} {locs : List Loc} {cells slots : Nat} {free : Addr → Prop} {ls : Array Slot} {rest : List Value} {Qc : Array Value → State → Outcome → State → Prop} {XC : String → State → State → Prop}
    {pc : Nat} {own E : String} {ce : Cell} {q : Addr} {mc ms : Nat} (hown : s.vm.findClass own = some m.cls) (hlocks : meth.locks = false)
    (hpass : ∀ z ∈ c.exceptionTable.toList, covers z pc = false ∨ (z.catchType ≠ 0 ∧ ∃ nm : String, (Cond.classLink own z.catchType nm).before args s = true ∧ va_Nc E nm s)) (hcell : H[q]? = some ce) (hv : ce.vm = .none) (hcl : s.vm.findClass E = some ce.cls)
    (hx : ∀ t : State, t.heap = H → s.vm.Alike t.vm → XC E s t) (hf : ∀ z ∈ locs, free z.base) (hc : cells ≤ mc) (hs : slots ≤ ms) :
    vx_W p l e R s m args below meth c H locs cells slots (vx_MQ below Qc XC args s mc ms free) (F0 m pc ls rest) q := by
  intro T hT X
  have hpl : e.platform.magicAccessors = ({} : Platform).magicAccessors := by rw [X.admits.platform]
  obtain ⟨vm', hW', X', st⟩ := X.outThrough hlocks q (g := F0 m pc ls rest) rfl rfl rfl (cell := ce) (by rw [hT]; exact hcell) (by rw [hv]; rfl)
    (by obtain ⟨k9, h9, -⟩ := Vm.findClass_spec hcl; exact ⟨k9, h9⟩) (fun z hz => by
      rcases hpass z hz with h | ⟨hz0, nm, hl1, hn1⟩
      · exact Or.inl h
      · obtain ⟨c6, hc6, hcl6⟩ := Cond.classLink_spec hown hl1 e.platform hpl
        obtain ⟨a8, b8, h1, h2, h3⟩ := hn1
        cases Option.some.inj (h1.symm.trans hcl)
        cases Option.some.inj (h2.symm.trans hc6)
        exact Or.inr ⟨hz0, _, hcl6, h3⟩)
  obtain ⟨g₀, hfr⟩ := X'.frames_eq
  have hcell9 : ((T.setVm vm').setFrames (.throwing q :: below)).heap[q]? = some ce := by
    show T.heap[q]? = some ce
    rw [hT]; exact hcell
  have hend : Ended ((T.setVm vm').setFrames (.throwing q :: below)) below (.threw q) := State.frames_setFrames _ (State.cur_lt_of_frames hfr)
  refine ⟨(T.setVm vm').setFrames (.throwing q :: below), ?_, .threw q, X'.here.running, hend, Or.inr ⟨q, rfl, E, ce, locs, hx _ hT (X'.ends _).1.alike, hcell9, hv, hcl, (X'.ends _).1, (X'.ends _).2.mono hc hs, hf⟩⟩
  rw [X.pushThrowing_eq]
  exact st
/-- a thing of a world lies in the heap -/
theorem vx_lt {D : va_G} {cl : List vw_C} {ws : va_W} {H1 : Heap} (h : va_P D cl ws H1) {k : Nat} {q : Nat × va_E} (hk : ws[k]? = some q) : q.1 < H1.size := (h k q hk).lt
end VXS
/-! ===== END ===== -/
/-! ===== BEGIN methods with a table of their own: called by a name, returning or throwing ===== -/
section VXH
/-! vx_backW, vx_callVX, vx_callSX, vx_callVW, vx_runVW, vx_runVX, vx_runSX, vx_ofWH follow the same proofs as their sisters above (Free/Laws.lean, Shelf42/LK1.lean); vx_outP calls Shelf42/NT130.lean (outThrough). -/
section
variable {l : Launch} {R : Room} {p : Program} {e : Env} {below : List Frame} {s : State} {sargs : Array Value} {y : MethodName} {len W9 : Nat}
theorem vx_backW {ws : List Cond} {rm : Room} {Pc : Array Value → State → Prop} {Qc : Array Value → State → Outcome → State → Prop} {XC : String → State → State → Prop} {mc ms : Nat} {free : Addr → Prop} {bytes : ByteArray} {maxL : Nat} {ret : Option FieldType} {hh : List (Nat × Nat × Nat × Nat)}
    (hM : vx_Met l y ws rm Pc Qc XC mc ms free) (hblind : FrameBlind Pc) (hrc : rm.cells = mc) (hrs : rm.slots = ms)
    (hframes : rm.frames + 1 ≤ R.frames) (hlocals : W9 + (maxL + 11) + rm.locals ≤ R.locals)
    (hws : ∀ w ∈ ws, ∀ a' U, s.WarmedH U.vm → w.before a' U = true) (hcode : Cond.codeWith y bytes maxL ret hh ∈ ws) (hinit : ∀ a' U, s.WarmedH U.vm → (Cond.initialized y.cls).before a' U = true) :
    vx_Back l R p e below s sargs y len W9 (PreOf R mc ms Pc) (PostOf Qc mc ms free) (vx_Post XC mc ms free) := by
  intro m meth c A g ig mk a X hg hsize hdg hW hn hp
  have h1 : (headSpec ws rm).pre.before a A.U = true := atoms_intro fun w hw => hws w hw _ _ X.warmed
  have h2 : (Cond.codeWith y bytes maxL ret hh).before a A.U = true := hws _ hcode _ _ X.warmed
  have h3 : (Cond.initialized y.cls).before a A.U = true := hinit _ _ X.warmed
  have h4 : A.cells + (headSpec ws rm).room.cells ≤ R.cells := by rw [show (headSpec ws rm).room.cells = mc from hrc]; exact hp.1
  have h5 : A.slots + (headSpec ws rm).room.slots ≤ R.slots := by rw [show (headSpec ws rm).room.slots = ms from hrs]; exact hp.2.1
  have hPc : Pc a (A.U.calling g mk a) := hblind _ _ _ _ hp.2.2
  obtain ⟨U, Ls, c0, s0⟩ := A
  dsimp only [Pt.U, Pt.locs, Pt.cells, Pt.slots] at h1 h2 h3 h4 h5 X hn hPc ⊢
  obtain ⟨m9, methY, cY, hn9, hmY, hcY, -, hlY, -⟩ := Cond.codeWith_spec h2
  cases Option.some.inj (hn9.symm.trans hn)
  obtain ⟨kY, hkY, -⟩ := className_of_methodNamed hn
  have hinitY : kY.init = .initialized := Cond.initialized_spec (findClass_of_methodNamed hn) hkY h3
  have h : At U g.method c below := by rw [hg]; exact X.here
  have hlocals9 : W9 + (maxL + 11) + (headSpec ws rm).room.locals ≤ R.locals := hlocals
  have happ : (headSpec ws rm).appliesLoose y e.platform (U.calling g mk a) = true :=
    Spec.appliesLoose_calling (g := g) h hdg hn hkY hinitY
      (X.room_calling (g := g) (R' := (headSpec ws rm).room) hsize hmY hcY hframes (by rw [hlY]; omega) h4 h5) h1
  obtain ⟨mid, hmid⟩ := h.above
  have hfr : (U.setTop g).frames = (.java g :: mid) ++ below := by rw [State.frames_setTop' g h.top, hmid]; rfl
  obtain ⟨o, s₂, hsteps, -, hend, hq⟩ := Steps.callFree hM p X.admits X.cas X.clock (acts := []) hfr happ hPc trivial
  have hq' : vx_Q Qc XC mc ms free a (U.calling g mk a) o s₂ := hq
  rw [State.frames_setTop' g h.top] at hend
  obtain ⟨g₀, hg0⟩ := Option.isSome_iff_exists.mp h.top
  obtain ⟨r, hr⟩ := State.topJava?_eq_some.mp hg0
  have hr' : (({ U with heap := s₂.heap, slotsUsed := s₂.slotsUsed } : State).setVm s₂.vm).frames = .java g₀ :: r := hr
  rcases hq' with ⟨hqc, L, hfe, hL⟩ | ⟨q, rfl, E, ce, L, hx, hce, hcv, hcl, hW₂, hsm, hL⟩
  · obtain ⟨⟨v, rfl⟩, hW₂, e2, q2, q3, q4, q5, q6⟩ := id hfe
    have e3 : s₂ = ({ (U.calling g mk a).setFrames s₂.frames with heap := s₂.heap, slotsUsed := s₂.slotsUsed } : State).setVm s₂.vm := by
      have : s₂ = ({ s₂ with vm := (U.calling g mk a).vm } : State).setVm s₂.vm := rfl
      rw [e2] at this
      exact this
    obtain ⟨c₂, i₂, len₂, hc₂, hd₂, hf₂⟩ := hend
    have hW' : U.WarmedH s₂.vm := hW₂
    have hcc : c₂ = c := by
      have h1 : s₂.code? g.method = U.code? g.method := by
        rw [State.code?_eq, State.code?_eq, hW'.alike.method?]
      exact Option.some.inj (hc₂.symm.trans (h1.trans h.code))
    subst hcc
    have hlen : len₂ = len := by rw [hdg] at hd₂; cases hd₂; rfl
    subst hlen
    have hs₂ : s₂ = (({ U with heap := s₂.heap, slotsUsed := s₂.slotsUsed } : State).setVm s₂.vm).setTop { g with pc := g.pc + len₂, stack := v.toList ++ g.stack } := by
      refine e3.trans ?_
      rw [hf₂, State.calling_eq h.top, State.setFrames_setFrames, State.setTop_of_frames _ hr', hr]
      rfl
    have hsame : U.sameButNew ({ U with heap := s₂.heap, slotsUsed := s₂.slotsUsed } : State) L mc ms := by
      refine ⟨?_, q2, q3, q4, q5, q6⟩
      obtain ⟨t, ht, -⟩ := State.frames_cons hr
      show ({ U with heap := s₂.heap, slotsUsed := s₂.slotsUsed } : State) = { U.setFrames U.frames with heap := s₂.heap, slotsUsed := s₂.slotsUsed }
      rw [State.setFrames_self ht]
    subst hg
    refine Or.inl ⟨v, ⟨(({ U with heap := s₂.heap, slotsUsed := s₂.slotsUsed } : State).setVm s₂.vm), Ls ++ L, c0 + mc, s0 + ms⟩,
      ⟨X.admits, X.cas, X.clock, X.frames, X.room, X.hears, X.method, X.code, (X.here.setHeapUsed s₂.heap s₂.slotsUsed).setVm hW'.alike, X.tail, State.WarmedH.trans X.warmed hW', X.limits, X.bytes, X.same.trans (hsame.setVm s.vm)⟩,
      ⟨g, mk, s₂, L, rfl, rfl, hqc, rfl, hL, rfl, rfl⟩, ?_⟩
    show Steps p.tables e below _ ((({ U with heap := s₂.heap, slotsUsed := s₂.slotsUsed } : State).setVm s₂.vm).setTop { g with pc := g.pc + len₂, stack := v.toList ++ g.stack })
    rw [← hs₂]
    exact hsteps
  · obtain ⟨e2, q2, q3, q4, q5, q6⟩ := id hsm
    have e3 : s₂ = ({ (U.calling g mk a).setFrames s₂.frames with heap := s₂.heap, slotsUsed := s₂.slotsUsed } : State).setVm s₂.vm := by
      have : s₂ = ({ s₂ with vm := (U.calling g mk a).vm } : State).setVm s₂.vm := rfl
      rw [e2] at this
      exact this
    have hf₂ : s₂.frames = .throwing q :: .java g :: U.frames.tail := hend
    have hW' : U.WarmedH s₂.vm := hW₂
    have hs₂ : s₂ = ((({ U with heap := s₂.heap, slotsUsed := s₂.slotsUsed } : State).setVm s₂.vm).setTop g).pushFrame (.throwing q) := by
      refine e3.trans ?_
      rw [hf₂, State.calling_eq h.top, State.setFrames_setFrames, State.pushFrame, State.frames_setTop _ hr', State.setTop_of_frames _ hr', State.setFrames_setFrames, hr]
      rfl
    have hsame : U.sameButNew ({ U with heap := s₂.heap, slotsUsed := s₂.slotsUsed } : State) L mc ms := by
      refine ⟨?_, q2, q3, q4, q5, q6⟩
      obtain ⟨t, ht, -⟩ := State.frames_cons hr
      show ({ U with heap := s₂.heap, slotsUsed := s₂.slotsUsed } : State) = { U.setFrames U.frames with heap := s₂.heap, slotsUsed := s₂.slotsUsed }
      rw [State.setFrames_self ht]
    subst hg
    refine Or.inr ⟨q, ⟨(({ U with heap := s₂.heap, slotsUsed := s₂.slotsUsed } : State).setVm s₂.vm), Ls ++ L, c0 + mc, s0 + ms⟩,
      ⟨X.admits, X.cas, X.clock, X.frames, X.room, X.hears, X.method, X.code, (X.here.setHeapUsed s₂.heap s₂.slotsUsed).setVm hW'.alike, X.tail, State.WarmedH.trans X.warmed hW', X.limits, X.bytes, X.same.trans (hsame.setVm s.vm)⟩,
      ⟨g, mk, s₂, L, E, ce, rfl, rfl, hx, hce, hcv, hcl, rfl, hL, rfl, rfl⟩, ?_⟩
    show Steps p.tables e below _ (((({ U with heap := s₂.heap, slotsUsed := s₂.slotsUsed } : State).setVm s₂.vm).setTop g).pushFrame (.throwing q))
    rw [← hs₂]
    exact hsteps
end
variable {p : Program} {l : Launch} {e : Env} {R : Room} {s : State} {m : MethodId} {args : Array Value} {below : List Frame} {meth : Method} {c : Code} {T : State} {H : Heap} {locs : List Loc} {cells slots : Nat}
theorem vx_callVX (X : Stand p l e R s m args below meth c T locs cells slots) (hexec : p.tables.exec = Jvm.exec) {own C : String} {index : Nat} {y : MethodName} {bytes : ByteArray} {maxL : Nat} {ret : Option FieldType} {hh : List (Nat × Nat × Nat × Nat)}
    (hown : s.vm.findClass own = some m.cls) (hlink : (Cond.methodLink own index y).before args s = true) (hinst : (Cond.instanceMethod y).before args s = true) (hsel : (Cond.selects C y y).before args s = true)
    (hcode : (Cond.codeWith y bytes maxL ret hh).before args s = true) (hy : y.cls ≠ "java/lang/invoke/MethodHandle" ∧ y.cls ≠ "java/lang/invoke/VarHandle")
    {W9 : Nat} {Pre : Pt → Array Value → Prop} {Post : Pt → Array Value → Option Value → Pt → Prop} {PostX : Pt → Array Value → Addr → Pt → Prop} (hK : vx_Back l R p e below s args y 3 W9 Pre Post PostX)
    {b : Addr} {cellB : Cell} (hcell : T.heap[b]? = some cellB) (hobj : cellB.vm.isStatics = false) (hcls : s.vm.findClass C = some cellB.cls)
    {g : JFrame} (hg : g.method = m) (hsize : g.locals.size = c.maxLocals) {argsL rest : List Value} (hlen : ∀ sig, parseMethodDescriptor y.desc = some sig → argsL.length = sig.parameters.length)
    (hstack : g.stack = argsL.reverse ++ .ref b :: rest) (hW : 2 * g.monitorRoom + (rest.map fun v => v.category).sum ≤ W9) (hdg : decode c.code g.pc = .ok (.invokevirtual index, 3))
    (hpre : ∀ vm₁, s.WarmedH vm₁ → Pre ⟨T.setVm vm₁, locs, cells, slots⟩ (Value.ref b :: argsL).toArray) :
    (∃ (v : Option Value) (vm₁ : Vm) (B : Pt), s.WarmedH vm₁ ∧ Stand p l e R s m args below meth c B.U B.locs B.cells B.slots ∧ Post ⟨T.setVm vm₁, locs, cells, slots⟩ (Value.ref b :: argsL).toArray v B ∧
      ∀ target, Steps p.tables e below (B.U.setTop { g with pc := g.pc + 3, stack := v.toList ++ rest }) target → Steps p.tables e below (T.setTop g) target) ∨
    (∃ (q : Addr) (vm₁ : Vm) (B : Pt), s.WarmedH vm₁ ∧ Stand p l e R s m args below meth c B.U B.locs B.cells B.slots ∧ PostX ⟨T.setVm vm₁, locs, cells, slots⟩ (Value.ref b :: argsL).toArray q B ∧
      Steps p.tables e below (T.setTop g) ((B.U.setTop { g with stack := rest }).pushFrame (.throwing q))) := by
  obtain ⟨mk, methM, hnamed, hmethM, hstM, habM⟩ := Cond.instanceMethod_spec hinst
  obtain ⟨m8, methM', cM, hn8, hmethM', -, -, -, -, -, -, hsigM⟩ := Cond.codeWith_spec hcode
  cases Option.some.inj (hn8.symm.trans hnamed)
  cases hmethM.symm.trans hmethM'
  obtain ⟨c2, r2, m2, q1, q2, q3, q4, kP, hkP, hkPi⟩ := Cond.selects_spec hsel
  cases hcls.symm.trans q1
  cases (State.methodFound?_of_named hnamed hy).symm.trans q2
  cases hnamed.symm.trans q3
  have hselP : selectMethod e.platform s.vm cellB.cls mk = .method mk := by rw [Launch.admits_selectMethod X.admits]; exact q4
  obtain ⟨vm₁, X₁, hstep₁⟩ := X.invokevirtual hexec hown hlink hnamed hmethM hstM hkP hkPi hy (a := b) (cell := cellB) hcell
    (fun z h => by rw [h] at hobj; cases hobj) hselP hmethM habM hkP hkPi (g := g) hg (argsL := argsL) (rest := rest) (hlen _ hsigM) hstack hdg
  rcases hK m meth c ⟨T.setVm vm₁, locs, cells, slots⟩ { g with stack := rest } (.invokevirtual index) mk (Value.ref b :: argsL).toArray X₁ hg hsize hdg hW (X₁.named hnamed) (hpre vm₁ X₁.warmed) with ⟨v, B, X', hpost, hsteps⟩ | ⟨q, B, X', hpost, hsteps⟩
  · exact Or.inl ⟨v, vm₁, B, X₁.warmed, X', hpost, fun target h => hstep₁ _ fun acts => by rw [doInvoke_state]; exact hsteps.trans h⟩
  · exact Or.inr ⟨q, vm₁, B, X₁.warmed, X', hpost, hstep₁ _ fun acts => by rw [doInvoke_state]; exact hsteps⟩
theorem vx_callSX (X : Stand p l e R s m args below meth c T locs cells slots) (hexec : p.tables.exec = Jvm.exec) {own : String} {index : Nat} {y : MethodName} {bytes : ByteArray} {maxL : Nat} {ret : Option FieldType} {hh : List (Nat × Nat × Nat × Nat)}
    (hown : s.vm.findClass own = some m.cls) (hlink : (Cond.methodLink own index y).before args s = true) (hstat : (Cond.static y).before args s = true) (hinit : (Cond.initialized y.cls).before args s = true)
    (hcode : (Cond.codeWith y bytes maxL ret hh).before args s = true) (hy : y.cls ≠ "java/lang/invoke/MethodHandle" ∧ y.cls ≠ "java/lang/invoke/VarHandle")
    {W9 : Nat} {Pre : Pt → Array Value → Prop} {Post : Pt → Array Value → Option Value → Pt → Prop} {PostX : Pt → Array Value → Addr → Pt → Prop} (hK : vx_Back l R p e below s args y 3 W9 Pre Post PostX)
    {g : JFrame} (hg : g.method = m) (hsize : g.locals.size = c.maxLocals) {argsL rest : List Value} (hlen : ∀ sig, parseMethodDescriptor y.desc = some sig → argsL.length = sig.parameters.length)
    (hstack : g.stack = argsL.reverse ++ rest) (hW : 2 * g.monitorRoom + (rest.map fun v => v.category).sum ≤ W9) (hdg : decode c.code g.pc = .ok (.invokestatic index, 3))
    (hpre : ∀ vm₁, s.WarmedH vm₁ → Pre ⟨T.setVm vm₁, locs, cells, slots⟩ argsL.toArray) :
    (∃ (v : Option Value) (vm₁ : Vm) (B : Pt), s.WarmedH vm₁ ∧ Stand p l e R s m args below meth c B.U B.locs B.cells B.slots ∧ Post ⟨T.setVm vm₁, locs, cells, slots⟩ argsL.toArray v B ∧
      ∀ target, Steps p.tables e below (B.U.setTop { g with pc := g.pc + 3, stack := v.toList ++ rest }) target → Steps p.tables e below (T.setTop g) target) ∨
    (∃ (q : Addr) (vm₁ : Vm) (B : Pt), s.WarmedH vm₁ ∧ Stand p l e R s m args below meth c B.U B.locs B.cells B.slots ∧ PostX ⟨T.setVm vm₁, locs, cells, slots⟩ argsL.toArray q B ∧
      Steps p.tables e below (T.setTop g) ((B.U.setTop { g with stack := rest }).pushFrame (.throwing q))) := by
  obtain ⟨mk, methM, cM, hnamed, hmethM, -, -, -, -, -, -, hsigM⟩ := Cond.codeWith_spec hcode
  have hstatic : methM.isStatic = true := Cond.static_spec hnamed hmethM hstat
  obtain ⟨kP, hkP, -⟩ := className_of_methodNamed hnamed
  have hinitP : kP.init = .initialized := Cond.initialized_spec (findClass_of_methodNamed hnamed) hkP hinit
  obtain ⟨vm₁, X₁, hstep₁⟩ := X.invokestatic hexec hown hlink hnamed hmethM hstatic hkP hinitP hy (g := g) hg (argsL := argsL) (rest := rest) (hlen _ hsigM) hstack hdg
  rcases hK m meth c ⟨T.setVm vm₁, locs, cells, slots⟩ { g with stack := rest } (.invokestatic index) mk argsL.toArray X₁ hg hsize hdg hW (X₁.named hnamed) (hpre vm₁ X₁.warmed) with ⟨v, B, X', hpost, hsteps⟩ | ⟨q, B, X', hpost, hsteps⟩
  · exact Or.inl ⟨v, vm₁, B, X₁.warmed, X', hpost, fun target h => hstep₁ _ fun acts => by rw [doInvoke_state]; exact hsteps.trans h⟩
  · exact Or.inr ⟨q, vm₁, B, X₁.warmed, X', hpost, hstep₁ _ fun acts => by rw [doInvoke_state]; exact hsteps⟩
theorem vx_callVW (X : Stand p l e R s m args below meth c T locs cells slots) (hexec : p.tables.exec = Jvm.exec) {own C : String} {index : Nat} {y : MethodName} {bytes : ByteArray} {maxL : Nat} {ret : Option FieldType} {hh : List (Nat × Nat × Nat × Nat)}
    (hown : s.vm.findClass own = some m.cls) (hlink : (Cond.methodLink own index y).before args s = true) (hinst : (Cond.instanceMethod y).before args s = true) (hsel : (Cond.selects C y y).before args s = true)
    (hcode : (Cond.codeWith y bytes maxL ret hh).before args s = true) (hy : y.cls ≠ "java/lang/invoke/MethodHandle" ∧ y.cls ≠ "java/lang/invoke/VarHandle")
    {W9 : Nat} {Pre : Pt → Array Value → Prop} {Post : Pt → Array Value → Option Value → Pt → Prop} (hK : Back l R p e below s args y 3 W9 Pre Post)
    {b : Addr} {cellB : Cell} (hcell : T.heap[b]? = some cellB) (hobj : cellB.vm.isStatics = false) (hcls : s.vm.findClass C = some cellB.cls)
    {g : JFrame} (hg : g.method = m) (hsize : g.locals.size = c.maxLocals) {argsL rest : List Value} (hlen : ∀ sig, parseMethodDescriptor y.desc = some sig → argsL.length = sig.parameters.length)
    (hstack : g.stack = argsL.reverse ++ .ref b :: rest) (hW : 2 * g.monitorRoom + (rest.map fun v => v.category).sum ≤ W9) (hdg : decode c.code g.pc = .ok (.invokevirtual index, 3))
    (hpre : ∀ vm₁, s.WarmedH vm₁ → Pre ⟨T.setVm vm₁, locs, cells, slots⟩ (Value.ref b :: argsL).toArray) :
    ∃ (v : Option Value) (vm₁ : Vm) (B : Pt), s.WarmedH vm₁ ∧ Stand p l e R s m args below meth c B.U B.locs B.cells B.slots ∧ Post ⟨T.setVm vm₁, locs, cells, slots⟩ (Value.ref b :: argsL).toArray v B ∧
      ∀ target, Steps p.tables e below (B.U.setTop { g with pc := g.pc + 3, stack := v.toList ++ rest }) target → Steps p.tables e below (T.setTop g) target := by
  obtain ⟨mk, methM, hnamed, hmethM, hstM, habM⟩ := Cond.instanceMethod_spec hinst
  obtain ⟨m8, methM', cM, hn8, hmethM', -, -, -, -, -, -, hsigM⟩ := Cond.codeWith_spec hcode
  cases Option.some.inj (hn8.symm.trans hnamed)
  cases hmethM.symm.trans hmethM'
  obtain ⟨c2, r2, m2, q1, q2, q3, q4, kP, hkP, hkPi⟩ := Cond.selects_spec hsel
  cases hcls.symm.trans q1
  cases (State.methodFound?_of_named hnamed hy).symm.trans q2
  cases hnamed.symm.trans q3
  have hselP : selectMethod e.platform s.vm cellB.cls mk = .method mk := by rw [Launch.admits_selectMethod X.admits]; exact q4
  obtain ⟨vm₁, X₁, hstep₁⟩ := X.invokevirtual hexec hown hlink hnamed hmethM hstM hkP hkPi hy (a := b) (cell := cellB) hcell
    (fun z h => by rw [h] at hobj; cases hobj) hselP hmethM habM hkP hkPi (g := g) hg (argsL := argsL) (rest := rest) (hlen _ hsigM) hstack hdg
  obtain ⟨v, B, X', hpost, hsteps⟩ := hK m meth c ⟨T.setVm vm₁, locs, cells, slots⟩ { g with stack := rest } (.invokevirtual index) mk (Value.ref b :: argsL).toArray X₁ hg hsize hdg hW (X₁.named hnamed) (hpre vm₁ X₁.warmed)
  exact ⟨v, vm₁, B, X₁.warmed, X', hpost, fun target h => hstep₁ _ fun acts => by rw [doInvoke_state]; exact hsteps.trans h⟩
abbrev vx_CVW (R : Room) (s : State) (args : Array Value) (own C : String) (index : Nat) (y : MethodName) (bytes : ByteArray) (maxL : Nat) (ret : Option FieldType) (hh : List (Nat × Nat × Nat × Nat)) (ws : List Cond) (rm : Room) (mc ms n : Nat) : Prop :=
  (rm.cells = mc ∧ rm.slots = ms ∧ rm.frames + 1 ≤ R.frames ∧ 8 + (maxL + 11) + rm.locals ≤ R.locals ∧ (∀ w ∈ ws, ∀ (a' : Array Value) (U : State), s.WarmedH U.vm → w.before a' U = true) ∧ Cond.codeWith y bytes maxL ret hh ∈ ws) ∧
  (Cond.codeWith y bytes maxL ret hh).before args s = true ∧ (Cond.initialized y.cls).before args s = true ∧ (y.cls ≠ "java/lang/invoke/MethodHandle" ∧ y.cls ≠ "java/lang/invoke/VarHandle") ∧
  (∀ sig, parseMethodDescriptor y.desc = some sig → n = sig.parameters.length) ∧ (Cond.methodLink own index y).before args s = true ∧ (Cond.instanceMethod y).before args s = true ∧ (Cond.selects C y y).before args s = true
theorem vx_cwVW {own C : String} {index maxL mc ms : Nat} {y : MethodName} {bytes : ByteArray} {ret : Option FieldType} {hh : List (Nat × Nat × Nat × Nat)} {Ts ws ws' : List Cond} {rm : Room} (n : Nat) (ht : ∀ w ∈ Ts, w.before args s = true) (hT : GoodIn Ts (wsV own index C y ws)) (hw : ws = Cond.codeWith y bytes maxL ret hh :: ws') (hrc : rm.cells = mc) (hrs : rm.slots = ms)
    (hd : y.cls = C ∧ y.cls ≠ "java/lang/invoke/MethodHandle" ∧ y.cls ≠ "java/lang/invoke/VarHandle" ∧ (parseMethodDescriptor y.desc).map (fun d => d.parameters.length) = some n) (hR : rm.frames + 1 ≤ R.frames ∧ 8 + (maxL + 11) + rm.locals ≤ R.locals) :
    vx_CVW R s args own C index y bytes maxL ret hh ws rm mc ms n := by
  obtain ⟨hC, hd⟩ := hd
  subst hC
  have ok : ∀ w ∈ wsV own index y.cls y ws, w.before args s = true := fun w h => ht w (hT w h).1
  have hG : GoodIn Ts ws := fun w h => hT w (by unfold wsV; exact List.mem_append_right _ h)
  have hc : Cond.codeWith y bytes maxL ret hh ∈ ws := by rw [hw]; exact List.mem_cons_self
  refine ⟨⟨hrc, hrs, hR.1, hR.2, pay_in ht hG, hc⟩, ht _ (hG _ hc).1, ok _ (by simp [wsV]), ⟨hd.1, hd.2.1⟩, fun sig h => ?_, ok _ (by simp [wsV]), ok _ (by simp [wsV]), ok _ (by simp [wsV])⟩
  have h2 := hd.2.2
  rw [h] at h2
  exact (Option.some.inj h2).symm
theorem vx_runVW {y : MethodName} {bytes cc : ByteArray} {maxL nL mc ms n index : Nat} {ret : Option FieldType} {hh : List (Nat × Nat × Nat × Nat)} {ws : List Cond} {rm : Room} {Pc : Array Value → State → Prop} {Qc : Array Value → State → Outcome → State → Prop} {free : Addr → Prop} {Ts : List Cond} {own C : String} {b : Addr} {As rest : List Value} {g : JFrame}
    (S : CallFix p m c cc nL s args Ts own) (hM : Met l y ws rm Pc Qc mc ms free) (cw : vx_CVW R s args own C index y bytes maxL ret hh ws rm mc ms n) (hp : PreV s H C b Pc As)
    (hg : g.method = m) (hn : As.length = n) (hsize : g.locals.size = nL) (hstack : g.stack = As.reverse ++ .ref b :: rest) (hW : 2 * g.monitorRoom + (rest.map fun v => v.category).sum ≤ 8) (hdg : decode cc g.pc = .ok (.invokevirtual index, 3)) (hf : cells + mc ≤ R.cells ∧ slots + ms ≤ R.slots) :
    va_Run p l e R s m args below meth c H locs cells slots mc ms g rest (Qc (Value.ref b :: As).toArray) free := by
  obtain ⟨⟨hrc, hrs, hfr, hlo, hws, hcw⟩, hcode, hini, hy, hlen, hl, hin, hse⟩ := cw
  have hK : Back l R p e below s args y 3 8 (PreOf R mc ms Pc) (PostOf Qc mc ms free) := va_backW (hh := hh) (bytes := bytes) (maxL := maxL) (ret := ret) hM hp.1 hrc hrs hfr hlo hws hcw (fun a' U hW => word_at hW (Or.inl (by first | rfl | simp [Cond.onTables, Cond.keeps, Cond.steady])) hini)
  obtain ⟨hx, hb, hml, ho, -⟩ := S
  obtain ⟨-, ⟨cellB, hcB, hoB, hclB⟩, hPc⟩ := hp
  intro T hT X
  obtain ⟨v, vm₁, ⟨U', l2, c2, s2⟩, hW₁, X', ⟨g', mk, t, L, e1, e2, hq, h1, hL, h2, h3⟩, st⟩ := vx_callVW X hx (C := C) (hh := hh) (bytes := bytes) (maxL := maxL) (ret := ret) ho hl hin hse hcode hy hK (by rw [hT]; exact hcB) hoB hclB hg (hsize.trans hml.symm) (argsL := As) (rest := rest) (fun sig h => hn.trans (hlen sig h)) hstack hW (by rw [hb]; exact hdg)
    (fun vm₁ hW₁ => ⟨hf.1, hf.2, hPc (T.setVm vm₁) hT hW₁⟩)
  dsimp only [Pt.U, Pt.locs, Pt.cells, Pt.slots] at X' e1 e2 h1 h2 h3 st
  subst h1; subst h2; subst h3
  exact ⟨v, (T.setVm vm₁).calling g' mk (Value.ref b :: As).toArray, t, U', L, hT, X', hL, e1, e2, hq, st⟩
section
variable {y : MethodName} {bytes cc : ByteArray} {maxL nL mc ms n index : Nat} {ret : Option FieldType} {ws : List Cond} {rm : Room} {Pc : Array Value → State → Prop} {Qc : Array Value → State → Outcome → State → Prop} {XC : String → State → State → Prop} {free : Addr → Prop} {Ts : List Cond} {own C : String} {b : Addr} {As rest : List Value} {g : JFrame}
theorem vx_runVX {hh : List (Nat × Nat × Nat × Nat)} (S : CallFix p m c cc nL s args Ts own) (hM : vx_Met l y ws rm Pc Qc XC mc ms free) (cw : vx_CVW R s args own C index y bytes maxL ret hh ws rm mc ms n) (hp : PreV s H C b Pc As)
    (hg : g.method = m) (hn : As.length = n) (hsize : g.locals.size = nL) (hstack : g.stack = As.reverse ++ .ref b :: rest) (hW : 2 * g.monitorRoom + (rest.map fun v => v.category).sum ≤ 8) (hdg : decode cc g.pc = .ok (.invokevirtual index, 3)) (hf : cells + mc ≤ R.cells ∧ slots + ms ≤ R.slots) :
    vx_Run p l e R s m args below meth c H locs cells slots mc ms g rest (Qc (Value.ref b :: As).toArray) XC free := by
  obtain ⟨⟨hrc, hrs, hfr, hlo, hws, hcw⟩, hcode, hini, hy, hlen, hl, hin, hse⟩ := cw
  have hK : vx_Back l R p e below s args y 3 8 (PreOf R mc ms Pc) (PostOf Qc mc ms free) (vx_Post XC mc ms free) := vx_backW (hh := hh) (bytes := bytes) (maxL := maxL) (ret := ret) hM hp.1 hrc hrs hfr hlo hws hcw (fun a' U hW => word_at hW (Or.inl (by first | rfl | simp [Cond.onTables, Cond.keeps, Cond.steady])) hini)
  obtain ⟨hx, hb, hml, ho, -⟩ := S
  obtain ⟨-, ⟨cellB, hcB, hoB, hclB⟩, hPc⟩ := hp
  intro T hT X
  rcases vx_callVX X hx (C := C) (hh := hh) (bytes := bytes) (maxL := maxL) (ret := ret) ho hl hin hse hcode hy hK (by rw [hT]; exact hcB) hoB hclB hg (hsize.trans hml.symm) (argsL := As) (rest := rest) (fun sig h => hn.trans (hlen sig h)) hstack hW (by rw [hb]; exact hdg)
    (fun vm₁ hW₁ => ⟨hf.1, hf.2, hPc (T.setVm vm₁) hT hW₁⟩) with ⟨v, vm₁, ⟨U', l2, c2, s2⟩, hW₁, X', ⟨g', mk, t, L, e1, e2, hq, h1, hL, h2, h3⟩, st⟩ | ⟨q, vm₁, ⟨U', l2, c2, s2⟩, hW₁, X', ⟨g', mk, t, L, E, ce, e1, e2, hq, hce, hcv, hcl, h1, hL, h2, h3⟩, st⟩
  · dsimp only [Pt.U, Pt.locs, Pt.cells, Pt.slots] at X' e1 e2 h1 h2 h3 st
    subst h1; subst h2; subst h3
    exact Or.inl ⟨v, (T.setVm vm₁).calling g' mk (Value.ref b :: As).toArray, t, U', L, hT, X', hL, e1, e2, hq, st⟩
  · dsimp only [Pt.U, Pt.locs, Pt.cells, Pt.slots] at X' e1 e2 h1 h2 h3 st hcl
    subst h1; subst h2; subst h3
    exact Or.inr ⟨q, (T.setVm vm₁).calling g' mk (Value.ref b :: As).toArray, t, U', L, E, ce, hT, X', hL, e1, e2, hq, hce, hcv, vx_cls hW₁ hcl, st⟩
theorem vx_runSX {hh : List (Nat × Nat × Nat × Nat)} (S : CallFix p m c cc nL s args Ts own) (hM : vx_Met l y ws rm Pc Qc XC mc ms free) (cw : vx_CSW R s args own index y bytes maxL ret hh ws rm mc ms n) (hp : PreS s H Pc As)
    (hg : g.method = m) (hn : As.length = n) (hsize : g.locals.size = nL) (hstack : g.stack = As.reverse ++ rest) (hW : 2 * g.monitorRoom + (rest.map fun v => v.category).sum ≤ 8) (hdg : decode cc g.pc = .ok (.invokestatic index, 3)) (hf : cells + mc ≤ R.cells ∧ slots + ms ≤ R.slots) :
    vx_Run p l e R s m args below meth c H locs cells slots mc ms g rest (Qc As.toArray) XC free := by
  obtain ⟨⟨hrc, hrs, hfr, hlo, hws, hcw⟩, hcode, hini, hy, hlen, hl, hstt⟩ := cw
  have hK : vx_Back l R p e below s args y 3 8 (PreOf R mc ms Pc) (PostOf Qc mc ms free) (vx_Post XC mc ms free) := vx_backW (hh := hh) (bytes := bytes) (maxL := maxL) (ret := ret) hM hp.1 hrc hrs hfr hlo hws hcw (fun a' U hW => word_at hW (Or.inl (by first | rfl | simp [Cond.onTables, Cond.keeps, Cond.steady])) hini)
  obtain ⟨hx, hb, hml, ho, -⟩ := S
  intro T hT X
  rcases vx_callSX X hx (hh := hh) (bytes := bytes) (maxL := maxL) (ret := ret) ho hl hstt hini hcode hy hK hg (hsize.trans hml.symm) (argsL := As) (rest := rest) (fun sig h => hn.trans (hlen sig h)) hstack hW (by rw [hb]; exact hdg)
    (fun vm₁ hW₁ => ⟨hf.1, hf.2, hp.2 (T.setVm vm₁) hT hW₁⟩) with ⟨v, vm₁, ⟨U', l2, c2, s2⟩, hW₁, X', ⟨g', mk, t, L, e1, e2, hq, h1, hL, h2, h3⟩, st⟩ | ⟨q, vm₁, ⟨U', l2, c2, s2⟩, hW₁, X', ⟨g', mk, t, L, E, ce, e1, e2, hq, hce, hcv, hcl, h1, hL, h2, h3⟩, st⟩
  · dsimp only [Pt.U, Pt.locs, Pt.cells, Pt.slots] at X' e1 e2 h1 h2 h3 st
    subst h1; subst h2; subst h3
    exact Or.inl ⟨v, (T.setVm vm₁).calling g' mk As.toArray, t, U', L, hT, X', hL, e1, e2, hq, st⟩
  · dsimp only [Pt.U, Pt.locs, Pt.cells, Pt.slots] at X' e1 e2 h1 h2 h3 st hcl
    subst h1; subst h2; subst h3
    exact Or.inr ⟨q, (T.setVm vm₁).calling g' mk As.toArray, t, U', L, E, ce, hT, X', hL, e1, e2, hq, hce, hcv, vx_cls hW₁ hcl, st⟩
end
end VXH
theorem vx_ofWH {l : Launch} {y : MethodName} {ws ws' : List Cond} {rm : Room} {Pc : Array Value → State → Prop} {Qc : Array Value → State → Outcome → State → Prop} {XC : String → State → State → Prop} {mc ms : Nat} {free : Addr → Prop} {cc : ByteArray} {maxL : Nat} {ret : Option FieldType} {hh : List (Nat × Nat × Nat × Nat)}
    (hy : plainName y.cls = true) (hw : ws = Cond.codeWith y cc maxL ret hh :: ws')
    (body : ∀ p e s m args below meth c s₁, BodyLoose p l y (headSpec ws rm) cc maxL ret e s m args below meth c s₁ → c.maxLocals = maxL → Pc args s →
      W p l e (headSpec ws rm).room s m args below meth c s.heap [] 0 0 (vx_MQ below Qc XC args s mc ms free) (entryFrame m args maxL)) : vx_Met l y ws rm Pc Qc XC mc ms free := by
  refine MetFree.of_bodyS (code := cc) (maxLocals := maxL) (ret := ret) hy ?_ ?_
  · intro args s m h hn
    obtain ⟨m9, meth, c, hn9, h1, h2, h3, h4, -, h5, h6, -⟩ := Cond.codeWith_spec (atoms_spec (ws := ws) h _ (by rw [hw]; exact List.mem_cons_self))
    cases hn.symm.trans hn9
    exact ⟨meth, c, h1, h2, h3, h4, h5, h6⟩
  · intro p e s m args below meth c s₁ B hml hP _
    have hh0 : s₁.heap = s.heap := by rw [B.state]; rfl
    obtain ⟨t, a1, o, b1, b2, b3⟩ := body p e s m args below meth c s₁ B hml hP s₁ hh0 (Stand.of_body B)
    exact ⟨t, o, a1, b1, b2, b3⟩
/-! ===== END ===== -/

/-! ===== BEGIN what the machine throws by itself, no traces kept ===== -/
section VXM
set_option maxHeartbeats 1000000 in
/-- the machine throws cls with the message text, no traces kept: from its note over the frame g to 'throwing' over the same frame (follows the proofs of Stand.vmThrowsMessage, Shelf/KitTracedVmS.lean, and Stand.throwsMessageColdBareV, StandMessageColdV.lean, without the step out of the frame) -/
theorem vx_vmAt {p : Program} {l : Launch} {e : Env} {R : Room} {s : State} {m₀ : MethodId} {args : Array Value} {below : List Frame} {meth : Method} {c : Code} {W : State} {locs : List Loc} {cells slots : Nat}
    (X : Stand p l e R s m₀ args below meth c W locs cells slots) (hexec : p.tables.exec = Jvm.exec) (htr : e.platform.stackTraces = false) {cls : String} {names : List String} {text : String}
    (hcls : Bundle.fit cls = true) (hnames : ∀ n ∈ names, Bundle.fit n = true) (hsoe : (cls == "java/lang/StackOverflowError") = false) (hoom : (cls == "java/lang/OutOfMemoryError") = false)
    (h : ∀ a ∈ Bundle.messageArmAtoms cls names, a.before args s = true)
    (hlocs : ∀ x ∈ locs, ∀ cell, s.heap[x.base]? = some cell → cell.vm.isStatics = false)
    (htext : (text == notModelled) = false) (hlimit : ¬ (stringBytes (stringToUtf16 text)).size > e.platform.arrayLengthLimit) (hheap : ¬ (stringBytes (stringToUtf16 text)).size * componentBytes .byte > e.platform.maxHeapBytes)
    {g : JFrame} (hg : g.method = m₀) (hsize : g.locals.size = c.maxLocals)
    (hRframes : names.length + 4 < R.frames) (hRlocals : 2 * g.monitorRoom + (g.stack.map fun v => v.category).sum + 10240 ≤ R.locals) (hshort : 13 * names.length + 55 ≤ 10240)
    (hRcells : cells + 3 ≤ R.cells) (hRslots : slots + ((stringBytes (stringToUtf16 text)).size + 4 + 6) ≤ R.slots) (hlocks : meth.locks = false) :
    ∃ (S : State) (q : Addr) (ce : Cell), (∀ target, Steps p.tables e below ((S.setTop g).pushFrame (.throwing q)) target → Steps p.tables e below ((W.setTop g).pushFrame (.throwNew cls (some text) none)) target) ∧
      Stand p l e R s m₀ args below meth c S locs (cells + 3) (slots + ((stringBytes (stringToUtf16 text)).size + 4 + 6)) ∧ S.heap[q]? = some ce ∧ s.vm.findClass cls = some ce.cls ∧ ce.vm = .none := by
  have howns : e.platform.frameOwnsMonitors = true := by rw [X.admits.platform]
  have hfin : e.platform.finalization = false := by rw [X.admits.platform]
  have hpl : e.platform.magicAccessors = ({} : Platform).magicAccessors := by rw [X.admits.platform]
  have a : ∀ x, x ∈ Bundle.messageArmAtoms cls names → x.holds args s none s [] = true := fun x hx => h x hx
  obtain ⟨T, Z0, L, -, Y⟩ := ThrowableC.of_atoms (args := args) howns hfin hpl (fun x hx => h x (by simp [Bundle.messageArmAtoms, hx]))
  obtain ⟨Z, M, LZ, LM, hnZ⟩ := Init0T.ofS_atoms (args := args) hpl L Y (fun x hx => h x (by simp [Bundle.messageArmAtoms, hx]))
  obtain ⟨P1, Ps, hlen, L1, hL, hP1m, hlink1, hlink⟩ := Bundle.chainS (args := args) hpl hnZ names cls hcls hnames (fun x hx => h x (by simp [Bundle.messageArmAtoms, hx]))
  obtain ⟨Zs, LZs, hn4, hfitv, hfitc⟩ := StringT.of_atoms (args := args) (fun x hx => h x (by simp [Bundle.messageArmAtoms, hx]))
  have hfound : s.vm.findClass cls = some P1.m.cls := findClass_of_methodNamed hP1m
  obtain ⟨c1, kX, hc1, hk, hord, -, -, hn6⟩ := Cond.instantiable_spec (a (.instantiable cls 6) (by simp [Bundle.messageArmAtoms]))
  cases Option.some.inj (hc1.symm.trans hfound)
  have hinit := Cond.initialized_spec hfound hk (a (.initialized cls) (by simp [Bundle.messageArmAtoms]))
  have hctor : kX.findMethod "<init>" "(Ljava/lang/String;)V" = some P1.m.idx := findMethod_of_methodNamed hP1m hk
  have hsel0 : selectMethod e.platform s.vm P1.m.cls T.fill0 = .method T.fill0 := by
    obtain ⟨c2, r2, m2, q1, q2, q3, q4, -⟩ := Cond.selects_spec (a (.selects cls Bundle.tFill0 Bundle.tFill0) (by simp [Bundle.messageArmAtoms]))
    cases Option.some.inj (q1.symm.trans hfound)
    cases Option.some.inj (q2.symm.trans (State.methodFound?_of_named Y.fill0 (by decide)))
    cases Option.some.inj (q3.symm.trans Y.fill0)
    rw [Launch.admits_selectMethod X.admits]; exact q4
  have hselF : selectMethod e.platform s.vm P1.m.cls T.fill = .method T.fill := by
    obtain ⟨c2, r2, m2, q1, q2, q3, q4, -⟩ := Cond.selects_spec (a (.selects cls Bundle.tFill Bundle.tFill) (by simp [Bundle.messageArmAtoms]))
    cases Option.some.inj (q1.symm.trans hfound)
    cases Option.some.inj (q2.symm.trans (State.methodFound?_of_named Y.fill (by decide)))
    cases Option.some.inj (q3.symm.trans Y.fill)
    rw [Launch.admits_selectMethod X.admits]; exact q4
  obtain ⟨cellS0, hcS0, hiss⟩ := Y.statics
  obtain ⟨u0, hu0⟩ := Cond.staticRefV Y.unassigned L.unassignedStatic L.statics hcS0 hiss (a (.isRef (.static Bundle.tN "UNASSIGNED_STACK" Bundle.steD)) (by simp [Bundle.messageArmAtoms]))
  obtain ⟨sen, hsen⟩ := Cond.staticRefV Y.sentinel L.sentinelStatic L.statics hcS0 hiss (a (.isRef (.static Bundle.tN "SUPPRESSED_SENTINEL" Bundle.listD)) (by simp [Bundle.messageArmAtoms]))
  obtain ⟨ci198, i198, fB, hk198, hg198, ha198, hsB, -, hnB, htB, hffB⟩ := Cond.ownField (t := .object "java/lang/Object") Y.found L.cls (by decide +kernel) (a (.fieldLink Bundle.tN 198 Bundle.tN "backtrace" "Ljava/lang/Object;") (by simp [Bundle.messageArmAtoms])) (a (.lays Bundle.tN Bundle.tN "backtrace" "Ljava/lang/Object;") (by simp [Bundle.messageArmAtoms])) e.platform hpl
  obtain ⟨cellS, hcS', heS, -, hkeep⟩ := X.same.2.2.2.2.2 T.aS cellS0 hcS0
  have hcellS : W.heap[T.aS]? = some cellS := hcS'
  have hout' : ∀ i, (⟨T.aS, i⟩ : Loc) ∉ locs := fun i hmem => by
    have := hlocs _ hmem cellS0 hcS0
    rw [hiss] at this; cases this
  have hknownS : cellS.vm ≠ .unknown := by
    rw [heS]; intro hu
    rw [show cellS0.vm = .unknown from hu] at hiss
    cases hiss
  have hvU : cellS.slots[T.fUnassigned.slot]? = some u0.v := by rw [hkeep _ (hout' _)]; exact hu0
  have hvSen : cellS.slots[T.fSentinel.slot]? = some sen.v := by rw [hkeep _ (hout' _)]; exact hsen
  obtain ⟨iM, hffM⟩ := Y.msg
  obtain ⟨tyC, dC, hdC, hdnC⟩ := Cond.laysAt hfound hk Y.cause (a (.lays cls Bundle.tN "cause" "Ljava/lang/Throwable;") (by simp [Bundle.messageArmAtoms]))
  obtain ⟨tyS, dS, hdS, hdnS⟩ := Cond.laysAt hfound hk Y.stack (a (.lays cls Bundle.tN "stackTrace" Bundle.steD) (by simp [Bundle.messageArmAtoms]))
  obtain ⟨tyP, dP, hdP, hdnP⟩ := Cond.laysAt hfound hk Y.supp (a (.lays cls Bundle.tN "suppressedExceptions" Bundle.listD) (by simp [Bundle.messageArmAtoms]))
  obtain ⟨tyM, dM, hdM, hdnM⟩ := Cond.laysAt hfound hk hffM (a (.lays cls Bundle.tN "detailMessage" "Ljava/lang/String;") (by simp [Bundle.messageArmAtoms]))
  obtain ⟨tyB, dB, hdB, hdnB⟩ := Cond.laysAt hfound hk hffB (a (.lays cls Bundle.tN "backtrace" "Ljava/lang/Object;") (by simp [Bundle.messageArmAtoms]))
  have bC := Cond.laysApart hdB hdC hdnB hdnC (by rw [hnB, Y.causeName]; decide)
  have bS := Cond.laysApart hdB hdS hdnB hdnS (by rw [hnB, Y.stackName]; decide)
  have bP := Cond.laysApart hdB hdP hdnB hdnP (by rw [hnB, Y.suppName]; decide)
  have hbk : ((preparedCellV T.toThrowableT (freshCell P1.m.cls kX) (W.heap.size + 2) u0 sen).withEntry W.cur).slots[fB.slot]? = some .null := by
    have := fresh_default (c := P1.m.cls) tyB
    rw [htB] at this
    simpa [preparedCellV, Cell.setSlot, Cell.withEntry, Array.getElem?_setIfInBounds, bC, bS, bP, bC.symm, bS.symm, bP.symm, defaultValue] using this
  have tkC := Takes.of_laid (v := .ref (W.heap.size + 2)) hk hord tyC (by rw [Y.causeType]; rfl)
  have tkS := Takes.of_laid (v := u0.v) hk hord tyS (by rw [Y.stackType]; exact fits_refV_array _ u0)
  have tkP := Takes.of_laid (v := sen.v) hk hord tyP (by rw [Y.suppType]; exact fits_refV_object _ sen)
  have tkM := Takes.of_laid (v := .ref (W.heap.size + 1)) hk hord tyM (by rw [Y.msgType]; rfl)
  have hskip : SkipFacts T e.platform s (fun u => u) u0 ((preparedCellV T.toThrowableT (freshCell P1.m.cls kX) (W.heap.size + 2) u0 sen).withEntry W.cur) := ⟨{ ci198 := ci198, i198 := i198, fBack := fB }, ⟨hk198, hg198, ha198, hsB⟩, hbk, fun _ _ => rfl⟩
  have h0 : At W g.method c below := by rw [hg]; exact X.here
  obtain ⟨hbeyond, hfreeW⟩ := X.vmMayThrow hsize (.throwNew cls (some text) none) (fun f hf => by cases hf) rfl hRlocals
  have hfr' : W.frames.length + Ps.length + 4 < (e.platform.stackLimits W.me).1 := by have := X.framesAbove hRframes; omega
  have hwd' : (stackUse (.java g :: W.frames.tail)).2 + 13 * Ps.length + 55 ≤ (e.platform.stackLimits W.me).2 := by have := X.stackAbove hsize (K := 13 * Ps.length + 55) (by omega); omega
  have hslots : W.slotsUsed + (stringBytes (stringToUtf16 text)).size + Zs.kS.instanceTypes.size + kX.instanceTypes.size ≤ e.platform.maxSlots := by
    have := X.slotsAbove hRslots
    rw [hn4, hn6]
    omega
  obtain ⟨vm', hW', st⟩ := Steps.vmThrowsMessageColdByV p (s₀ := s) (S := W) (g := g) h0 hexec T L Z LZ M LM X.warmed (t := W.cur) rfl Zs LZs P1 L1 Ps hL hlink1 hlink hsoe hoom hfound hk hinit hord hctor
    (Launch.admits_hotImplicitExceptions X.admits) hbeyond hfreeW htext hlimit hheap (X.cellsAbove hRcells) hslots (hfitv _) (hfitc _)
    (Nn := fun u => u) heapOnly_id (fun _ _ => rfl) (fun _ => rfl) (fun u x y => setCell_twice _ _ _ _) (fun _ => Nat.le_refl _) (cN := ((preparedCellV T.toThrowableT (freshCell P1.m.cls kX) (W.heap.size + 2) u0 sen).withEntry W.cur))
    hsel0 hcellS hknownS hvU tkS (fun _ hu => hu) (fun _ hu => hu) rfl rfl rfl (by simp [preparedCellV, Cell.setSlot, Cell.withEntry]) hskip (fun _ _ hA hW _ hroom _ hrest => L.nativeOff p htr hA hW hroom hrest) hselF hvSen tkC tkP tkM Y.objLocals rfl hfr' hwd'
  rw [plainBareV_eq T.toThrowableT (W.heap.size + 2) u0 sen (.ref (W.heap.size + 1)) W.cur rfl rfl] at st
  obtain ⟨-, -, w3, w4, -, -, -⟩ := withThrown_facts e.platform W Zs text P1.m.cls kX
  have X3 := ((X.pushed (bytesOf Zs.cB (stringToUtf16 text))).pushed (stringAt Zs.cS Zs.kS Zs.fv Zs.fc (stringToUtf16 text) W.heap.size)).pushed (freshCell P1.m.cls kX)
  rw [← withString_eq] at X3
  have X4 := X3.noted hW'
  have ha : (W.heap.size + 2) < ((withThrown W Zs text P1.m.cls kX).setVm vm').heap.size := by show _ < (withThrown W Zs text P1.m.cls kX).heap.size; rw [w3]; omega
  have hcell : ((withThrown W Zs text P1.m.cls kX).setVm vm').heap[(W.heap.size + 2)]? = some (freshCell P1.m.cls kX) := w4
  have X5 := ((((X4.stored hcell T.fCause.slot (.ref (W.heap.size + 2))).storedAgain ha T.fStack.slot u0.v).storedAgain ha T.fSupp.slot sen.v).storedAgain ha T.fStack.slot u0.v).storedAgain ha T.fMsg.slot (.ref (W.heap.size + 1))
  obtain ⟨g₁, hfrM⟩ := X5.frames_eq
  have hU : ((((withThrown W Zs text P1.m.cls kX).setVm vm').setCell (W.heap.size + 2) (plainBareV T.toThrowableT (freshCell P1.m.cls kX) (W.heap.size + 2) u0 sen (.ref (W.heap.size + 1)))).setTop g).pushFrame (.throwing (W.heap.size + 2)) = (((withThrown W Zs text P1.m.cls kX).setVm vm').setCell (W.heap.size + 2) (plainBareV T.toThrowableT (freshCell P1.m.cls kX) (W.heap.size + 2) u0 sen (.ref (W.heap.size + 1)))).setFrames (.throwing (W.heap.size + 2) :: .java g :: below) := by
    rw [State.pushFrame, State.frames_setTop _ hfrM, State.setTop_of_frames _ hfrM, State.setFrames_setFrames]
  have b1 : (bytesOf Zs.cB (stringToUtf16 text)).slots.size = (stringBytes (stringToUtf16 text)).size := by
    rw [(Cell.writeAll_facts _ _).2.2]; simp [bytes0]
  have b2 : (stringAt Zs.cS Zs.kS Zs.fv Zs.fc (stringToUtf16 text) W.heap.size).slots.size = 4 := by simp [string0, Cell.setSlot, hn4]
  have b3 : (freshCell P1.m.cls kX).slots.size = 6 := by simp [hn6]
  rw [b1, b2, b3] at X5
  have e9 : slots + (stringBytes (stringToUtf16 text)).size + 4 + 6 = slots + ((stringBytes (stringToUtf16 text)).size + 4 + 6) := by omega
  rw [e9] at X5
  simp only [List.append_assoc, List.cons_append, List.nil_append] at X5
  refine ⟨((withThrown W Zs text P1.m.cls kX).setVm vm').setCell (W.heap.size + 2) (plainBareV T.toThrowableT (freshCell P1.m.cls kX) (W.heap.size + 2) u0 sen (.ref (W.heap.size + 1))), W.heap.size + 2, _, fun target ht => st _ (by rw [X.tail, ← hU]; exact ht),
    X5.forget (fun y hy => ?_), heapAt_setCell_self _ ha, hfound, rfl⟩
  simp only [List.mem_cons, List.not_mem_nil, or_false] at hy
  have hge : s.heap.size ≤ W.heap.size := X.same.2.1
  rcases hy with rfl | rfl | rfl | rfl | rfl <;> exact Nat.le_trans hge (Nat.le_add_right _ 2)
set_option maxHeartbeats 1000000 in
/-- the machine throws NullPointerException, no traces kept: from its note over the frame g to 'throwing' over the same frame (follows the proof of Stand.vmThrowsNpe, Shelf42/KT2.lean; throwsNpeColdBareVAt, Shelf42/NT91.lean, called) -/
theorem vx_npeAt {p : Program} {l : Launch} {e : Env} {R : Room} {s : State} {m₀ : MethodId} {args : Array Value} {below : List Frame} {meth : Method} {c : Code} {W : State} {locs : List Loc} {cells slots : Nat}
    (X : Stand p l e R s m₀ args below meth c W locs cells slots) (hexec : p.tables.exec = Jvm.exec) (htr : e.platform.stackTraces = false) {n : Nat}
    (h : ∀ a ∈ Bundle.npeArmAtoms n, a.before args s = true)
    (hlocs : ∀ x ∈ locs, ∀ cell, s.heap[x.base]? = some cell → cell.vm.isStatics = false)
    {g : JFrame} (hg : g.method = m₀) (hsize : g.locals.size = c.maxLocals)
    (hRframes : 7 < R.frames) (hRlocals : 2 * g.monitorRoom + (g.stack.map fun v => v.category).sum + 10240 ≤ R.locals)
    (hRcells : cells + 1 ≤ R.cells) (hRslots : slots + n ≤ R.slots) (hlocks : meth.locks = false) :
    ∃ (S : State) (q : Addr) (ce : Cell), (∀ target, Steps p.tables e below ((S.setTop g).pushFrame (.throwing q)) target → Steps p.tables e below ((W.setTop g).pushFrame (.throwNew "java/lang/NullPointerException" none none)) target) ∧
      Stand p l e R s m₀ args below meth c S locs (cells + 1) (slots + n) ∧ S.heap[q]? = some ce ∧ s.vm.findClass "java/lang/NullPointerException" = some ce.cls ∧ ce.vm = .none := by
  have howns : e.platform.frameOwnsMonitors = true := by rw [X.admits.platform]
  have hfin : e.platform.finalization = false := by rw [X.admits.platform]
  have hpl : e.platform.magicAccessors = ({} : Platform).magicAccessors := by rw [X.admits.platform]
  have hpl2 : e.platform.arrayCloneIsPublic = true := by rw [X.admits.platform]
  have a' : ∀ x, x ∈ Bundle.npeArmAtoms n → x.holds args s none s [] = true := fun x hx => h x hx
  obtain ⟨T, Z, L, LZ, Y⟩ := ThrowableC.of_atoms (args := args) howns hfin hpl (fun x hx => h x (by simp [Bundle.npeArmAtoms, hx]))
  obtain ⟨N, LN, hcN, hnNF, hordN, hffS⟩ := NpeC.of_atoms (args := args) hpl hpl2 L Y (fun x hx => h x (by simp [Bundle.npeArmAtoms, hx]))
  obtain ⟨P1, L1, hP1m, hP1s⟩ := PassC.of_atoms (args := args) (s := s) hpl (X := Bundle.nN) (Y := Bundle.rN) (by decide) (by decide) LibCode.NullPointerException.Init0.at_0 LibCode.NullPointerException.Init0.at_1 LibCode.NullPointerException.Init0.at_4 (fun x hx => h x (by simp [Bundle.npeArmAtoms, hx]))
  obtain ⟨PR, LR, hPRm, hPRs⟩ := PassC.of_atoms (args := args) (s := s) hpl (X := Bundle.rN) (Y := Bundle.eN) (by decide) (by decide) LibCode.RuntimeException.Init0.at_0 LibCode.RuntimeException.Init0.at_1 LibCode.RuntimeException.Init0.at_4 (fun x hx => h x (by simp [Bundle.npeArmAtoms, hx]))
  obtain ⟨PE, LEx, hPEm, hPEs⟩ := PassC.of_atoms (args := args) (s := s) hpl (X := Bundle.eN) (Y := Bundle.tN) (by decide) (by decide) LibCode.Exception.Init0.at_0 LibCode.Exception.Init0.at_1 LibCode.Exception.Init0.at_4 (fun x hx => h x (by simp [Bundle.npeArmAtoms, hx]))
  have hfound : s.vm.findClass Bundle.nN = some P1.m.cls := findClass_of_methodNamed hP1m
  have ecls : N.cN = P1.m.cls := Option.some.inj (hcN.symm.trans hfound)
  have hk : s.vm.classes[P1.m.cls]? = some N.kN := by rw [← ecls]; exact LN.cls
  have hinit := Cond.initialized_spec hfound hk (a' (.initialized Bundle.nN) (by simp [Bundle.npeArmAtoms]))
  have hctor : N.kN.findMethod "<init>" "()V" = some P1.m.idx := findMethod_of_methodNamed hP1m hk
  obtain ⟨c1, k1, hc1, hk1, -, -, -, hn⟩ := Cond.instantiable_spec (a' (.instantiable Bundle.nN n) (by simp [Bundle.npeArmAtoms]))
  cases Option.some.inj (hc1.symm.trans hfound)
  cases Option.some.inj (hk1.symm.trans hk)
  have hfsz : (freshCell P1.m.cls N.kN).slots.size = n := by simp [hn]
  have hlink1 : P1.sup = PR.m := Option.some.inj (hP1s.symm.trans hPRm)
  have hlinkR : PR.sup = PE.m := Option.some.inj (hPRs.symm.trans hPEm)
  have hlinkE : PE.sup = Z.m T.toThrowableT := Option.some.inj (hPEs.symm.trans Y.init0)
  have hLs : ∀ P, P ∈ [PR, PE] → P.Links0 e.platform s := fun P hP => by
    simp only [List.mem_cons, List.not_mem_nil, or_false] at hP
    rcases hP with rfl | rfl
    · exact LR
    · exact LEx
  have hsel0 : selectMethod e.platform s.vm P1.m.cls T.fill0 = .method T.fill0 := by
    obtain ⟨c2, r2, m2, q1, q2, q3, q4, -⟩ := Cond.selects_spec (a' (.selects Bundle.nN Bundle.tFill0 Bundle.tFill0) (by simp [Bundle.npeArmAtoms]))
    cases Option.some.inj (q1.symm.trans hfound)
    cases Option.some.inj (q2.symm.trans (State.methodFound?_of_named Y.fill0 (by decide)))
    cases Option.some.inj (q3.symm.trans Y.fill0)
    rw [Launch.admits_selectMethod X.admits]; exact q4
  have hselF : selectMethod e.platform s.vm P1.m.cls T.fill = .method N.fill := by
    obtain ⟨c2, r2, m2, q1, q2, q3, q4, -⟩ := Cond.selects_spec (a' (.selects Bundle.nN Bundle.tFill Bundle.nFill) (by simp [Bundle.npeArmAtoms]))
    cases Option.some.inj (q1.symm.trans hfound)
    cases Option.some.inj (q2.symm.trans (State.methodFound?_of_named Y.fill (by decide)))
    cases Option.some.inj (q3.symm.trans hnNF)
    rw [Launch.admits_selectMethod X.admits]; exact q4
  obtain ⟨cellS0, hcS0, hiss⟩ := Y.statics
  obtain ⟨u0, hu0⟩ := Cond.staticRefV Y.unassigned L.unassignedStatic L.statics hcS0 hiss (a' (.isRef (.static Bundle.tN "UNASSIGNED_STACK" Bundle.steD)) (by simp [Bundle.npeArmAtoms]))
  obtain ⟨sen, hsen⟩ := Cond.staticRefV Y.sentinel L.sentinelStatic L.statics hcS0 hiss (a' (.isRef (.static Bundle.tN "SUPPRESSED_SENTINEL" Bundle.listD)) (by simp [Bundle.npeArmAtoms]))
  obtain ⟨ci198, i198, fB, hk198, hg198, ha198, hsB, -, hnB, htB, hffB⟩ := Cond.ownField (t := .object "java/lang/Object") Y.found L.cls (by decide +kernel) (a' (.fieldLink Bundle.tN 198 Bundle.tN "backtrace" Bundle.objD) (by simp [Bundle.npeArmAtoms])) (a' (.lays Bundle.tN Bundle.tN "backtrace" Bundle.objD) (by simp [Bundle.npeArmAtoms])) e.platform hpl
  obtain ⟨cellS, hcS', heS, -, hkeep⟩ := X.same.2.2.2.2.2 T.aS cellS0 hcS0
  have hcellS : W.heap[T.aS]? = some cellS := hcS'
  have hout' : ∀ i, (⟨T.aS, i⟩ : Loc) ∉ locs := fun i hmem => by
    have := hlocs _ hmem cellS0 hcS0
    rw [hiss] at this; cases this
  have hknownS : cellS.vm ≠ .unknown := by
    rw [heS]; intro hu
    rw [show cellS0.vm = .unknown from hu] at hiss
    cases hiss
  have hvU : cellS.slots[T.fUnassigned.slot]? = some u0.v := by rw [hkeep _ (hout' _)]; exact hu0
  have hvSen : cellS.slots[T.fSentinel.slot]? = some sen.v := by rw [hkeep _ (hout' _)]; exact hsen
  obtain ⟨tyC, dC, hdC, hdnC⟩ := Cond.laysAt hfound hk Y.cause (a' (.lays Bundle.nN Bundle.tN "cause" "Ljava/lang/Throwable;") (by simp [Bundle.npeArmAtoms]))
  obtain ⟨tyS, dS, hdS, hdnS⟩ := Cond.laysAt hfound hk Y.stack (a' (.lays Bundle.nN Bundle.tN "stackTrace" Bundle.steD) (by simp [Bundle.npeArmAtoms]))
  obtain ⟨tyP, dP, hdP, hdnP⟩ := Cond.laysAt hfound hk Y.supp (a' (.lays Bundle.nN Bundle.tN "suppressedExceptions" Bundle.listD) (by simp [Bundle.npeArmAtoms]))
  obtain ⟨tyX, dX, hdX, hdnX⟩ := Cond.laysAt hfound hk hffS (a' (.lays Bundle.nN Bundle.nN "extendedMessageState" "I") (by simp [Bundle.npeArmAtoms, Bundle.npeAtoms]))
  obtain ⟨hnX, htX⟩ := State.fieldFound?_type hffS (t := .int) (by decide +kernel)
  have xC := Cond.laysApart hdC hdX hdnC hdnX (by rw [hnX, Y.causeName]; decide)
  have xS := Cond.laysApart hdS hdX hdnS hdnX (by rw [hnX, Y.stackName]; decide)
  have xP := Cond.laysApart hdP hdX hdnP hdnX (by rw [hnX, Y.suppName]; decide)
  have hv0 : (freshCell P1.m.cls N.kN).slots[N.fState.slot]? = some (.int 0) := by
    have := fresh_default (c := P1.m.cls) tyX
    rw [htX] at this; exact this
  obtain ⟨tyB, dB, hdB, hdnB⟩ := Cond.laysAt hfound hk hffB (a' (.lays Bundle.nN Bundle.tN "backtrace" Bundle.objD) (by simp [Bundle.npeArmAtoms]))
  have bC := Cond.laysApart hdB hdC hdnB hdnC (by rw [hnB, Y.causeName]; decide)
  have bS := Cond.laysApart hdB hdS hdnB hdnS (by rw [hnB, Y.stackName]; decide)
  have bP := Cond.laysApart hdB hdP hdnB hdnP (by rw [hnB, Y.suppName]; decide)
  have bX := Cond.laysApart hdB hdX hdnB hdnX (by rw [hnB, hnX]; decide)
  have hbk : ((npeCell N.toNpeT (preparedCellV T.toThrowableT (freshCell P1.m.cls N.kN) W.heap.size u0 sen) W.cur).withEntry W.cur).slots[fB.slot]? = some .null := by
    have := fresh_default (c := P1.m.cls) tyB
    rw [htB] at this
    simpa [npeCell, preparedCellV, Cell.setSlot, Cell.withEntry, Array.getElem?_setIfInBounds, bC, bS, bP, bX, bC.symm, bS.symm, bP.symm, bX.symm, defaultValue] using this
  have tkC := Takes.of_laid (v := .ref W.heap.size) hk hordN tyC (by rw [Y.causeType]; rfl)
  have tkS := Takes.of_laid (v := u0.v) hk hordN tyS (by rw [Y.stackType]; exact fits_refV_array _ u0)
  have tkP := Takes.of_laid (v := sen.v) hk hordN tyP (by rw [Y.suppType]; exact fits_refV_object _ sen)
  have tkX := Takes.of_laid (v := .int 1) hk hordN tyX (by rw [htX]; rfl)
  have hskip : SkipFacts T e.platform s (fun u => u) u0 ((npeCell N.toNpeT (preparedCellV T.toThrowableT (freshCell P1.m.cls N.kN) W.heap.size u0 sen) W.cur).withEntry W.cur) := ⟨{ ci198 := ci198, i198 := i198, fBack := fB }, ⟨hk198, hg198, ha198, hsB⟩, hbk, fun _ _ => rfl⟩
  obtain ⟨vm', X3, st, -⟩ := X.throwsNpeColdBareVAt hexec hg hsize T L Z LZ N LN P1 L1 [PR, PE] hLs hlink1 ⟨hlinkR, hlinkE, trivial⟩ hfound hk hinit hordN hctor hsel0 hselF hcellS hknownS hvU hvSen
    hv0 xC xS xP tkC tkS tkP tkX Y.objLocals hskip (fun _ _ hA hW _ hroom _ hrest => L.nativeOff p htr hA hW hroom hrest) (by simpa using hRframes) hRlocals (by simp) hRcells (by rw [hn]; exact hRslots)
  have hlt : W.heap.size < ((W.pushCell (freshCell P1.m.cls N.kN)).setVm vm').heap.size := by
    show W.heap.size < (W.pushCell (freshCell P1.m.cls N.kN)).heap.size
    rw [State.heap_size_pushCell]; omega
  rw [hfsz] at X3
  obtain ⟨g₁, hfrM⟩ := X3.frames_eq
  have hU : ((((W.pushCell (freshCell P1.m.cls N.kN)).setVm vm').setCell W.heap.size (npeBareV T.toThrowableT N.toNpeT (freshCell P1.m.cls N.kN) W.heap.size u0 sen)).setTop g).pushFrame (.throwing W.heap.size) = (((W.pushCell (freshCell P1.m.cls N.kN)).setVm vm').setCell W.heap.size (npeBareV T.toThrowableT N.toNpeT (freshCell P1.m.cls N.kN) W.heap.size u0 sen)).setFrames (.throwing W.heap.size :: .java g :: below) := by
    rw [State.pushFrame, State.frames_setTop _ hfrM, State.setTop_of_frames _ hfrM, State.setFrames_setFrames]
  refine ⟨_, W.heap.size, _, fun target ht => st.trans (by rw [← hU]; exact ht), X3.forget (fun y hy => ?_), heapAt_setCell_self _ hlt, hfound, rfl⟩
  simp only [List.mem_cons, List.not_mem_nil, or_false] at hy
  have hge : s.heap.size ≤ W.heap.size := X.same.2.1
  rcases hy with rfl | rfl | rfl | rfl | rfl <;> exact hge
/-- the words of a machine's NullPointerException, but the four that speak of the heap -/
def vx_atN (n : Nat) : List Cond := (Bundle.npeArmAtoms n).filter vx_no
/-- the words of a machine's throw with a message, but the four that speak of the heap -/
def vx_atM (X : String) (names : List String) : List Cond := (Bundle.messageArmAtoms X names).filter vx_no
section
variable {p : Program} {l : Launch} {e : Env} {R : Room} {s : State} {m : MethodId} {args : Array Value} {below : List Frame} {meth : Method} {c : Code} {H : Heap} {locs : List Loc} {cells slots : Nat}
/-- a frame seen from a rebased start, seen from the first start again -/
theorem vx_back9 {T S : State} {R' : Room} {k n : Nat} (X : Stand p l e R s m args below meth c T locs cells slots) (Y : Stand p l e R' ((T.setVm s.vm).setFrames (.invoking m args :: below)) m args below meth c T [] 0 0) (Z : Stand p l e R' ((T.setVm s.vm).setFrames (.invoking m args :: below)) m args below meth c S [] k n) :
    Stand p l e R s m args below meth c S locs (cells + k) (slots + n) := by
  have hW0 : s.WarmedH ((T.setVm s.vm).setFrames (.invoking m args :: below)).vm := State.WarmedH.refl s
  refine { admits := X.admits, cas := X.cas, clock := X.clock, frames := X.frames, room := X.room, hears := X.hears, method := X.method, code := X.code, here := Z.here, tail := Z.tail, warmed := State.WarmedH.trans hW0 Z.warmed, limits := Z.limits.trans (Y.limits.symm.trans X.limits), bytes := Z.bytes.trans (Y.bytes.symm.trans X.bytes), same := ?_ }
  obtain ⟨e1, e2⟩ := Z.same
  rw [State.setFrames_setFrames] at e1
  have h2 : (T.setVm s.vm).sameButNew (S.setVm s.vm) [] k n := ⟨e1, e2⟩
  have h3 := X.same.trans h2
  rw [List.append_nil] at h3
  exact h3
/-- from the machine's note that E is thrown here with this text -/
def vx_Note (p : Program) (l : Launch) (e : Env) (R : Room) (s : State) (m : MethodId) (args : Array Value) (below : List Frame) (meth : Method) (c : Code) (H : Heap) (locs : List Loc) (cells slots : Nat) (Q : State → Prop) (g : JFrame) (E text : String) : Prop :=
  ∀ T : State, T.heap = H → Stand p l e R s m args below meth c T locs cells slots → ∃ t, Steps p.tables e below ((T.setTop g).pushFrame (.throwNew E (some text) none)) t ∧ Q t
theorem vx_vm {pc : Nat} {ls : Array Slot} {rest : List Value} {Q : State → Prop} (hexec : p.tables.exec = Jvm.exec) (hl : l.stackTraces = false) {cls text : String} {names : List String} {nb : Nat} {A : Nat → Prop}
    (hcls : Bundle.fit cls = true) (hnames : ∀ n ∈ names, Bundle.fit n = true) (hsoe : (cls == "java/lang/StackOverflowError") = false) (hoom : (cls == "java/lang/OutOfMemoryError") = false)
    (hat : ∀ w ∈ vx_atM cls names, w.before args s = true) (hgood : ∀ w ∈ vx_atM cls names, vx_ot w = true)
    (hU : vx_Zq Bundle.tN "UNASSIGNED_STACK" Bundle.steD A s s.heap) (hN : vx_Zq Bundle.tN "SUPPRESSED_SENTINEL" Bundle.listD A s s.heap) (hS : va_S A s.heap H locs) (hsize : ls.size = c.maxLocals)
    (htext : (text == notModelled) = false) (hnb : (stringBytes (stringToUtf16 text)).size ≤ nb) (hnb1 : nb ≤ 1000)
    (hRframes : names.length + 4 < R.frames) (hRlocals : (rest.map fun v => v.category).sum + 10240 ≤ R.locals) (hshort : 13 * names.length + 55 ≤ 10240) (hRcells : cells + 3 ≤ R.cells) (hRslots : slots + (nb + 10) ≤ R.slots) (hlocks : meth.locks = false)
    (k : ∀ (H1 : Heap) (q9 : Addr) (ce : Cell), H.size ≤ H1.size → (∀ q : Nat, q < H.size → H1[q]? = H[q]?) → va_S A s.heap H1 locs → H1[q9]? = some ce → ce.vm = .none → s.vm.findClass cls = some ce.cls → vx_W p l e R s m args below meth c H1 locs (cells + 3) (slots + (nb + 10)) Q (F0 m pc ls rest) q9) :
    vx_Note p l e R s m args below meth c H locs cells slots Q (F0 m pc ls rest) cls text := by
  intro T hT X
  have htr : e.platform.stackTraces = false := (show e.platform.stackTraces = l.stackTraces by rw [X.admits.platform]).trans hl
  have Y := vx_rebase X (R' := { frames := R.frames, locals := R.locals, cells := 3, slots := nb + 10 }) (Nat.le_refl _) (Nat.le_refl _) hRcells hRslots
  have hhp : ((T.setVm s.vm).setFrames (.invoking m args :: below)).heap = H := hT
  have hW0 : s.WarmedH ((T.setVm s.vm).setFrames (.invoking m args :: below)).vm := State.WarmedH.refl s
  have hat' : ∀ w ∈ vx_atM cls names, w.before args ((T.setVm s.vm).setFrames (.invoking m args :: below)) = true := fun w hw => vx_ot_at hW0 rfl (hgood w hw) (hat w hw)
  have hU' : vx_Zq Bundle.tN "UNASSIGNED_STACK" Bundle.steD A ((T.setVm s.vm).setFrames (.invoking m args :: below)) ((T.setVm s.vm).setFrames (.invoking m args :: below)).heap := by rw [hhp]; exact vx_Zq.moved hW0.alike (hU.kept hS.2.1)
  have hN' : vx_Zq Bundle.tN "SUPPRESSED_SENTINEL" Bundle.listD A ((T.setVm s.vm).setFrames (.invoking m args :: below)) ((T.setVm s.vm).setFrames (.invoking m args :: below)).heap := by rw [hhp]; exact vx_Zq.moved hW0.alike (hN.kept hS.2.1)
  obtain ⟨S, q, ce, st, Z, hce, hcl', hv⟩ := vx_vmAt Y hexec htr (cls := cls) (names := names) (text := text) hcls hnames hsoe hoom (vx_own hat' (vx_isRefq hU'.1) (vx_isRefq hN'.1) hU'.2.word hN'.2.word) (fun x hx => nomatch hx) htext
    (by rw [Launch.admits_arrayLengthLimit X.admits]; omega) (by rw [Launch.admits_maxHeapBytes X.admits]; simp only [componentBytes]; omega)
    (g := F0 m pc ls rest) rfl hsize hRframes (by show 2 * 0 + (rest.map fun v => v.category).sum + 10240 ≤ R.locals; omega) hshort (by show 0 + 3 ≤ 3; omega) (by show 0 + (_ + 4 + 6) ≤ nb + 10; omega) hlocks
  obtain ⟨f1, f2⟩ := vx_frame Z.same
  have f1' : H.size ≤ S.heap.size := by rw [← hT]; exact f1
  have f2' : ∀ q : Nat, q < H.size → S.heap[q]? = H[q]? := fun q hq => by
    rw [← hT]
    exact f2 q (by rw [← hT] at hq; exact hq) (fun z hz => nomatch hz)
  have X5 := vx_back9 X Y Z
  have X6 : Stand p l e R s m args below meth c S locs (cells + 3) (slots + (nb + 10)) := { X5 with same := X5.same.mono (by omega) (by omega) }
  obtain ⟨t, a1, b1⟩ := k S.heap q ce f1' f2' ⟨Nat.le_trans hS.1 f1', fun q h1 h2 => (f2' q (Nat.lt_of_lt_of_le h1 hS.1)).trans (hS.2.1 q h1 h2), hS.2.2⟩ hce hv hcl' S rfl X6
  exact ⟨t, st t a1, b1⟩
/-- from the machine's note that NullPointerException is thrown here -/
def vx_NoteN (p : Program) (l : Launch) (e : Env) (R : Room) (s : State) (m : MethodId) (args : Array Value) (below : List Frame) (meth : Method) (c : Code) (H : Heap) (locs : List Loc) (cells slots : Nat) (Q : State → Prop) (g : JFrame) : Prop :=
  ∀ T : State, T.heap = H → Stand p l e R s m args below meth c T locs cells slots → ∃ t, Steps p.tables e below ((T.setTop g).pushFrame (.throwNew "java/lang/NullPointerException" none none)) t ∧ Q t
theorem vx_npe {pc : Nat} {ls : Array Slot} {rest : List Value} {Q : State → Prop} (hexec : p.tables.exec = Jvm.exec) (hl : l.stackTraces = false) {nb : Nat} {A : Nat → Prop}
    (hat : ∀ w ∈ vx_atN nb, w.before args s = true) (hgood : ∀ w ∈ vx_atN nb, vx_ot w = true)
    (hU : vx_Zq Bundle.tN "UNASSIGNED_STACK" Bundle.steD A s s.heap) (hN : vx_Zq Bundle.tN "SUPPRESSED_SENTINEL" Bundle.listD A s s.heap) (hS : va_S A s.heap H locs) (hsize : ls.size = c.maxLocals)
    (hRframes : 7 < R.frames) (hRlocals : (rest.map fun v => v.category).sum + 10240 ≤ R.locals) (hRcells : cells + 1 ≤ R.cells) (hRslots : slots + nb ≤ R.slots) (hlocks : meth.locks = false)
    (k : ∀ (H1 : Heap) (q9 : Addr) (ce : Cell), H.size ≤ H1.size → (∀ q : Nat, q < H.size → H1[q]? = H[q]?) → va_S A s.heap H1 locs → H1[q9]? = some ce → ce.vm = .none → s.vm.findClass "java/lang/NullPointerException" = some ce.cls → vx_W p l e R s m args below meth c H1 locs (cells + 1) (slots + nb) Q (F0 m pc ls rest) q9) :
    vx_NoteN p l e R s m args below meth c H locs cells slots Q (F0 m pc ls rest) := by
  intro T hT X
  have htr : e.platform.stackTraces = false := (show e.platform.stackTraces = l.stackTraces by rw [X.admits.platform]).trans hl
  have Y := vx_rebase X (R' := { frames := R.frames, locals := R.locals, cells := 1, slots := nb }) (Nat.le_refl _) (Nat.le_refl _) hRcells hRslots
  have hhp : ((T.setVm s.vm).setFrames (.invoking m args :: below)).heap = H := hT
  have hW0 : s.WarmedH ((T.setVm s.vm).setFrames (.invoking m args :: below)).vm := State.WarmedH.refl s
  have hat' : ∀ w ∈ vx_atN nb, w.before args ((T.setVm s.vm).setFrames (.invoking m args :: below)) = true := fun w hw => vx_ot_at hW0 rfl (hgood w hw) (hat w hw)
  have hU' : vx_Zq Bundle.tN "UNASSIGNED_STACK" Bundle.steD A ((T.setVm s.vm).setFrames (.invoking m args :: below)) ((T.setVm s.vm).setFrames (.invoking m args :: below)).heap := by rw [hhp]; exact vx_Zq.moved hW0.alike (hU.kept hS.2.1)
  have hN' : vx_Zq Bundle.tN "SUPPRESSED_SENTINEL" Bundle.listD A ((T.setVm s.vm).setFrames (.invoking m args :: below)) ((T.setVm s.vm).setFrames (.invoking m args :: below)).heap := by rw [hhp]; exact vx_Zq.moved hW0.alike (hN.kept hS.2.1)
  obtain ⟨S, q, ce, st, Z, hce, hcl', hv⟩ := vx_npeAt Y hexec htr (n := nb) (vx_own hat' (vx_isRefq hU'.1) (vx_isRefq hN'.1) hU'.2.word hN'.2.word) (fun x hx => nomatch hx)
    (g := F0 m pc ls rest) rfl hsize hRframes (by show 2 * 0 + (rest.map fun v => v.category).sum + 10240 ≤ R.locals; omega) (by show 0 + 1 ≤ 1; omega) (by show 0 + nb ≤ nb; omega) hlocks
  obtain ⟨f1, f2⟩ := vx_frame Z.same
  have f1' : H.size ≤ S.heap.size := by rw [← hT]; exact f1
  have f2' : ∀ q : Nat, q < H.size → S.heap[q]? = H[q]? := fun q hq => by
    rw [← hT]
    exact f2 q (by rw [← hT] at hq; exact hq) (fun z hz => nomatch hz)
  have X5 := vx_back9 X Y Z
  have X6 : Stand p l e R s m args below meth c S locs (cells + 1) (slots + nb) := { X5 with same := X5.same.mono (by omega) (by omega) }
  obtain ⟨t, a1, b1⟩ := k S.heap q ce f1' f2' ⟨Nat.le_trans hS.1 f1', fun q h1 h2 => (f2' q (Nat.lt_of_lt_of_le h1 hS.1)).trans (hS.2.1 q h1 h2), hS.2.2⟩ hce hv hcl' S rfl X6
  exact ⟨t, st t a1, b1⟩
variable {Q : State → Prop} {cc : ByteArray} {pc : Nat} {ls : Array Slot} {rest : List Value}
theorem vx_idivZ (hexec : p.tables.exec = Jvm.exec) (hb : c.code = cc) {a b : Int32} (h0 : b = 0) (d : decode cc pc = .ok (.idiv, 1)) (k : vx_Note p l e R s m args below meth c H locs cells slots Q (F0 m pc ls rest) "java/lang/ArithmeticException" "/ by zero") :
    W p l e R s m args below meth c H locs cells slots Q (F0 m pc ls (.int b :: .int a :: rest)) := by
  intro T hT X
  obtain ⟨t, st, q⟩ := k T hT X
  exact ⟨t, X.idivZero hexec (g := F0 m pc ls (.int b :: .int a :: rest)) rfl (a := a) (rest := rest) (by rw [h0]) (by rw [hb]; exact d) t st, q⟩
theorem vx_iremZ (hexec : p.tables.exec = Jvm.exec) (hb : c.code = cc) {a b : Int32} (h0 : b = 0) (d : decode cc pc = .ok (.irem, 1)) (k : vx_Note p l e R s m args below meth c H locs cells slots Q (F0 m pc ls rest) "java/lang/ArithmeticException" "/ by zero") :
    W p l e R s m args below meth c H locs cells slots Q (F0 m pc ls (.int b :: .int a :: rest)) := by
  intro T hT X
  obtain ⟨t, st, q⟩ := k T hT X
  exact ⟨t, X.iremZero hexec (g := F0 m pc ls (.int b :: .int a :: rest)) rfl (a := a) (rest := rest) (by rw [h0]) (by rw [hb]; exact d) t st, q⟩
theorem vx_ldivZ (hexec : p.tables.exec = Jvm.exec) (hb : c.code = cc) {a b : Int64} (h0 : b = 0) (d : decode cc pc = .ok (.ldiv, 1)) (k : vx_Note p l e R s m args below meth c H locs cells slots Q (F0 m pc ls rest) "java/lang/ArithmeticException" "/ by zero") :
    W p l e R s m args below meth c H locs cells slots Q (F0 m pc ls (.long b :: .long a :: rest)) := by
  intro T hT X
  obtain ⟨t, st, q⟩ := k T hT X
  exact ⟨t, X.ldivZero hexec (g := F0 m pc ls (.long b :: .long a :: rest)) rfl (a := a) (rest := rest) (by rw [h0]) (by rw [hb]; exact d) t st, q⟩
theorem vx_lremZ (hexec : p.tables.exec = Jvm.exec) (hb : c.code = cc) {a b : Int64} (h0 : b = 0) (d : decode cc pc = .ok (.lrem, 1)) (k : vx_Note p l e R s m args below meth c H locs cells slots Q (F0 m pc ls rest) "java/lang/ArithmeticException" "/ by zero") :
    W p l e R s m args below meth c H locs cells slots Q (F0 m pc ls (.long b :: .long a :: rest)) := by
  intro T hT X
  obtain ⟨t, st, q⟩ := k T hT X
  exact ⟨t, X.lremZero hexec (g := F0 m pc ls (.long b :: .long a :: rest)) rfl (a := a) (rest := rest) (by rw [h0]) (by rw [hb]; exact d) t st, q⟩
theorem vx_ialdZ {D : va_G} {cl : List vw_C} {ws : va_W} {tys : List (ClassId × FieldType)} {a : Nat} (hexec : p.tables.exec = Jvm.exec) (hb : c.code = cc) (hK : va_K D cl tys s) (hP : va_P D cl ws H) (q0 t0 : Nat) {cA : ClassId} {n : Nat} {f : Nat → Int32} (ha : ws[q0]? = some (a, .inl (cA, n, .inl f))) (ht : tys[t0]? = some (cA, .int)) {i : Int32} (hout : ¬ vp_in i n) (hdg : decode cc pc = .ok (.iaload, 1))
    (k : ∀ tx : String, tx = (toString "Index " ++ toString i ++ toString " out of bounds for length " ++ toString n) → vx_Note p l e R s m args below meth c H locs cells slots Q (F0 m pc ls rest) "java/lang/ArrayIndexOutOfBoundsException" tx) : W p l e R s m args below meth c H locs cells slots Q (F0 m pc ls (.int i :: .ref a :: rest)) := by
  intro T hT X
  obtain ⟨t, st, q⟩ := k _ rfl T hT X
  refine ⟨t, ?_, q⟩
  have h1 := X.ialoadOut hexec (by rw [hT]; exact hP q0 _ ha) ((hK.2 t0 _ ht).1 n (fun j => .int (f j))) (j := i) (by show (i < 0 ∨ (arrV _ _ _).slots.size ≤ _); rw [arrV_size]; exact Classical.byContradiction hout) (g := F0 m pc ls (.int i :: .ref a :: rest)) rfl (rest := rest) rfl (by rw [hb]; exact hdg) t
  simp only [arrV_size] at h1
  exact h1 st
theorem vx_iastZ {D : va_G} {cl : List vw_C} {ws : va_W} {tys : List (ClassId × FieldType)} {a : Nat} (hexec : p.tables.exec = Jvm.exec) (hb : c.code = cc) (hK : va_K D cl tys s) (hP : va_P D cl ws H) (q0 t0 : Nat) {cA : ClassId} {n : Nat} {f : Nat → Int32} (ha : ws[q0]? = some (a, .inl (cA, n, .inl f))) (ht : tys[t0]? = some (cA, .int)) {i : Int32} {x : Int32} (hout : ¬ vp_in i n) (hdg : decode cc pc = .ok (.iastore, 1))
    (k : ∀ tx : String, tx = (toString "Index " ++ toString i ++ toString " out of bounds for length " ++ toString n) → vx_Note p l e R s m args below meth c H locs cells slots Q (F0 m pc ls rest) "java/lang/ArrayIndexOutOfBoundsException" tx) : W p l e R s m args below meth c H locs cells slots Q (F0 m pc ls (.int x :: .int i :: .ref a :: rest)) := by
  intro T hT X
  obtain ⟨t, st, q⟩ := k _ rfl T hT X
  refine ⟨t, ?_, q⟩
  have h1 := X.iastoreOut hexec (by rw [hT]; exact hP q0 _ ha) ((hK.2 t0 _ ht).1 n (fun j => .int (f j))) (j := i) (by show (i < 0 ∨ (arrV _ _ _).slots.size ≤ _); rw [arrV_size]; exact Classical.byContradiction hout) (g := F0 m pc ls (.int x :: .int i :: .ref a :: rest)) rfl (rest := rest) rfl (by rw [hb]; exact hdg) t
  simp only [arrV_size] at h1
  exact h1 st
theorem vx_baldZ {D : va_G} {cl : List vw_C} {ws : va_W} {tys : List (ClassId × FieldType)} {a : Nat} (hexec : p.tables.exec = Jvm.exec) (hb : c.code = cc) (hK : va_K D cl tys s) (hP : va_P D cl ws H) (q0 t0 : Nat) {cA : ClassId} {n : Nat} {f : Nat → Int32} (ha : ws[q0]? = some (a, .inl (cA, n, .inl f))) (ht : tys[t0]? = some (cA, .byte)) {i : Int32} (hout : ¬ vp_in i n) (hdg : decode cc pc = .ok (.baload, 1))
    (k : ∀ tx : String, tx = (toString "Index " ++ toString i ++ toString " out of bounds for length " ++ toString n) → vx_Note p l e R s m args below meth c H locs cells slots Q (F0 m pc ls rest) "java/lang/ArrayIndexOutOfBoundsException" tx) : W p l e R s m args below meth c H locs cells slots Q (F0 m pc ls (.int i :: .ref a :: rest)) := by
  intro T hT X
  obtain ⟨t, st, q⟩ := k _ rfl T hT X
  refine ⟨t, ?_, q⟩
  have h1 := X.baloadOut hexec (by rw [hT]; exact hP q0 _ ha) ((hK.2 t0 _ ht).1 n (fun j => .int (f j))) (j := i) (by show (i < 0 ∨ (arrV _ _ _).slots.size ≤ _); rw [arrV_size]; exact Classical.byContradiction hout) (g := F0 m pc ls (.int i :: .ref a :: rest)) rfl (rest := rest) rfl (by rw [hb]; exact hdg) t
  simp only [arrV_size] at h1
  exact h1 st
theorem vx_bastZ {D : va_G} {cl : List vw_C} {ws : va_W} {tys : List (ClassId × FieldType)} {a : Nat} (hexec : p.tables.exec = Jvm.exec) (hb : c.code = cc) (hK : va_K D cl tys s) (hP : va_P D cl ws H) (q0 t0 : Nat) {cA : ClassId} {n : Nat} {f : Nat → Int32} (ha : ws[q0]? = some (a, .inl (cA, n, .inl f))) (ht : tys[t0]? = some (cA, .byte)) {i : Int32} {x : Int32} (hout : ¬ vp_in i n) (hdg : decode cc pc = .ok (.bastore, 1))
    (k : ∀ tx : String, tx = (toString "Index " ++ toString i ++ toString " out of bounds for length " ++ toString n) → vx_Note p l e R s m args below meth c H locs cells slots Q (F0 m pc ls rest) "java/lang/ArrayIndexOutOfBoundsException" tx) : W p l e R s m args below meth c H locs cells slots Q (F0 m pc ls (.int x :: .int i :: .ref a :: rest)) := by
  intro T hT X
  obtain ⟨t, st, q⟩ := k _ rfl T hT X
  refine ⟨t, ?_, q⟩
  have h1 := X.bastoreOut hexec (by rw [hT]; exact hP q0 _ ha) ((hK.2 t0 _ ht).1 n (fun j => .int (f j))) (j := i) (by show (i < 0 ∨ (arrV _ _ _).slots.size ≤ _); rw [arrV_size]; exact Classical.byContradiction hout) (g := F0 m pc ls (.int x :: .int i :: .ref a :: rest)) rfl (rest := rest) rfl (by rw [hb]; exact hdg) t
  simp only [arrV_size] at h1
  exact h1 st
theorem vx_zaldZ {D : va_G} {cl : List vw_C} {ws : va_W} {tys : List (ClassId × FieldType)} {a : Nat} (hexec : p.tables.exec = Jvm.exec) (hb : c.code = cc) (hK : va_K D cl tys s) (hP : va_P D cl ws H) (q0 t0 : Nat) {cA : ClassId} {n : Nat} {f : Nat → Int32} (ha : ws[q0]? = some (a, .inl (cA, n, .inl f))) (ht : tys[t0]? = some (cA, .boolean)) {i : Int32} (hout : ¬ vp_in i n) (hdg : decode cc pc = .ok (.baload, 1))
    (k : ∀ tx : String, tx = (toString "Index " ++ toString i ++ toString " out of bounds for length " ++ toString n) → vx_Note p l e R s m args below meth c H locs cells slots Q (F0 m pc ls rest) "java/lang/ArrayIndexOutOfBoundsException" tx) : W p l e R s m args below meth c H locs cells slots Q (F0 m pc ls (.int i :: .ref a :: rest)) := by
  intro T hT X
  obtain ⟨t, st, q⟩ := k _ rfl T hT X
  refine ⟨t, ?_, q⟩
  have h1 := X.baloadOut hexec (by rw [hT]; exact hP q0 _ ha) ((hK.2 t0 _ ht).1 n (fun j => .int (f j))) (j := i) (by show (i < 0 ∨ (arrV _ _ _).slots.size ≤ _); rw [arrV_size]; exact Classical.byContradiction hout) (g := F0 m pc ls (.int i :: .ref a :: rest)) rfl (rest := rest) rfl (by rw [hb]; exact hdg) t
  simp only [arrV_size] at h1
  exact h1 st
theorem vx_zastZ {D : va_G} {cl : List vw_C} {ws : va_W} {tys : List (ClassId × FieldType)} {a : Nat} (hexec : p.tables.exec = Jvm.exec) (hb : c.code = cc) (hK : va_K D cl tys s) (hP : va_P D cl ws H) (q0 t0 : Nat) {cA : ClassId} {n : Nat} {f : Nat → Int32} (ha : ws[q0]? = some (a, .inl (cA, n, .inl f))) (ht : tys[t0]? = some (cA, .boolean)) {i : Int32} {x : Int32} (hout : ¬ vp_in i n) (hdg : decode cc pc = .ok (.bastore, 1))
    (k : ∀ tx : String, tx = (toString "Index " ++ toString i ++ toString " out of bounds for length " ++ toString n) → vx_Note p l e R s m args below meth c H locs cells slots Q (F0 m pc ls rest) "java/lang/ArrayIndexOutOfBoundsException" tx) : W p l e R s m args below meth c H locs cells slots Q (F0 m pc ls (.int x :: .int i :: .ref a :: rest)) := by
  intro T hT X
  obtain ⟨t, st, q⟩ := k _ rfl T hT X
  refine ⟨t, ?_, q⟩
  have h1 := X.bastoreOut hexec (by rw [hT]; exact hP q0 _ ha) ((hK.2 t0 _ ht).1 n (fun j => .int (f j))) (j := i) (by show (i < 0 ∨ (arrV _ _ _).slots.size ≤ _); rw [arrV_size]; exact Classical.byContradiction hout) (g := F0 m pc ls (.int x :: .int i :: .ref a :: rest)) rfl (rest := rest) rfl (by rw [hb]; exact hdg) t
  simp only [arrV_size] at h1
  exact h1 st
theorem vx_caldZ {D : va_G} {cl : List vw_C} {ws : va_W} {tys : List (ClassId × FieldType)} {a : Nat} (hexec : p.tables.exec = Jvm.exec) (hb : c.code = cc) (hK : va_K D cl tys s) (hP : va_P D cl ws H) (q0 t0 : Nat) {cA : ClassId} {n : Nat} {f : Nat → Int32} (ha : ws[q0]? = some (a, .inl (cA, n, .inl f))) (ht : tys[t0]? = some (cA, .char)) {i : Int32} (hout : ¬ vp_in i n) (hdg : decode cc pc = .ok (.caload, 1))
    (k : ∀ tx : String, tx = (toString "Index " ++ toString i ++ toString " out of bounds for length " ++ toString n) → vx_Note p l e R s m args below meth c H locs cells slots Q (F0 m pc ls rest) "java/lang/ArrayIndexOutOfBoundsException" tx) : W p l e R s m args below meth c H locs cells slots Q (F0 m pc ls (.int i :: .ref a :: rest)) := by
  intro T hT X
  obtain ⟨t, st, q⟩ := k _ rfl T hT X
  refine ⟨t, ?_, q⟩
  have h1 := X.caloadOut hexec (by rw [hT]; exact hP q0 _ ha) ((hK.2 t0 _ ht).1 n (fun j => .int (f j))) (j := i) (by show (i < 0 ∨ (arrV _ _ _).slots.size ≤ _); rw [arrV_size]; exact Classical.byContradiction hout) (g := F0 m pc ls (.int i :: .ref a :: rest)) rfl (rest := rest) rfl (by rw [hb]; exact hdg) t
  simp only [arrV_size] at h1
  exact h1 st
theorem vx_castZ {D : va_G} {cl : List vw_C} {ws : va_W} {tys : List (ClassId × FieldType)} {a : Nat} (hexec : p.tables.exec = Jvm.exec) (hb : c.code = cc) (hK : va_K D cl tys s) (hP : va_P D cl ws H) (q0 t0 : Nat) {cA : ClassId} {n : Nat} {f : Nat → Int32} (ha : ws[q0]? = some (a, .inl (cA, n, .inl f))) (ht : tys[t0]? = some (cA, .char)) {i : Int32} {x : Int32} (hout : ¬ vp_in i n) (hdg : decode cc pc = .ok (.castore, 1))
    (k : ∀ tx : String, tx = (toString "Index " ++ toString i ++ toString " out of bounds for length " ++ toString n) → vx_Note p l e R s m args below meth c H locs cells slots Q (F0 m pc ls rest) "java/lang/ArrayIndexOutOfBoundsException" tx) : W p l e R s m args below meth c H locs cells slots Q (F0 m pc ls (.int x :: .int i :: .ref a :: rest)) := by
  intro T hT X
  obtain ⟨t, st, q⟩ := k _ rfl T hT X
  refine ⟨t, ?_, q⟩
  have h1 := X.castoreOut hexec (by rw [hT]; exact hP q0 _ ha) ((hK.2 t0 _ ht).1 n (fun j => .int (f j))) (j := i) (by show (i < 0 ∨ (arrV _ _ _).slots.size ≤ _); rw [arrV_size]; exact Classical.byContradiction hout) (g := F0 m pc ls (.int x :: .int i :: .ref a :: rest)) rfl (rest := rest) rfl (by rw [hb]; exact hdg) t
  simp only [arrV_size] at h1
  exact h1 st
theorem vx_saldZ {D : va_G} {cl : List vw_C} {ws : va_W} {tys : List (ClassId × FieldType)} {a : Nat} (hexec : p.tables.exec = Jvm.exec) (hb : c.code = cc) (hK : va_K D cl tys s) (hP : va_P D cl ws H) (q0 t0 : Nat) {cA : ClassId} {n : Nat} {f : Nat → Int32} (ha : ws[q0]? = some (a, .inl (cA, n, .inl f))) (ht : tys[t0]? = some (cA, .short)) {i : Int32} (hout : ¬ vp_in i n) (hdg : decode cc pc = .ok (.saload, 1))
    (k : ∀ tx : String, tx = (toString "Index " ++ toString i ++ toString " out of bounds for length " ++ toString n) → vx_Note p l e R s m args below meth c H locs cells slots Q (F0 m pc ls rest) "java/lang/ArrayIndexOutOfBoundsException" tx) : W p l e R s m args below meth c H locs cells slots Q (F0 m pc ls (.int i :: .ref a :: rest)) := by
  intro T hT X
  obtain ⟨t, st, q⟩ := k _ rfl T hT X
  refine ⟨t, ?_, q⟩
  have h1 := X.saloadOut hexec (by rw [hT]; exact hP q0 _ ha) ((hK.2 t0 _ ht).1 n (fun j => .int (f j))) (j := i) (by show (i < 0 ∨ (arrV _ _ _).slots.size ≤ _); rw [arrV_size]; exact Classical.byContradiction hout) (g := F0 m pc ls (.int i :: .ref a :: rest)) rfl (rest := rest) rfl (by rw [hb]; exact hdg) t
  simp only [arrV_size] at h1
  exact h1 st
theorem vx_sastZ {D : va_G} {cl : List vw_C} {ws : va_W} {tys : List (ClassId × FieldType)} {a : Nat} (hexec : p.tables.exec = Jvm.exec) (hb : c.code = cc) (hK : va_K D cl tys s) (hP : va_P D cl ws H) (q0 t0 : Nat) {cA : ClassId} {n : Nat} {f : Nat → Int32} (ha : ws[q0]? = some (a, .inl (cA, n, .inl f))) (ht : tys[t0]? = some (cA, .short)) {i : Int32} {x : Int32} (hout : ¬ vp_in i n) (hdg : decode cc pc = .ok (.sastore, 1))
    (k : ∀ tx : String, tx = (toString "Index " ++ toString i ++ toString " out of bounds for length " ++ toString n) → vx_Note p l e R s m args below meth c H locs cells slots Q (F0 m pc ls rest) "java/lang/ArrayIndexOutOfBoundsException" tx) : W p l e R s m args below meth c H locs cells slots Q (F0 m pc ls (.int x :: .int i :: .ref a :: rest)) := by
  intro T hT X
  obtain ⟨t, st, q⟩ := k _ rfl T hT X
  refine ⟨t, ?_, q⟩
  have h1 := X.sastoreOut hexec (by rw [hT]; exact hP q0 _ ha) ((hK.2 t0 _ ht).1 n (fun j => .int (f j))) (j := i) (by show (i < 0 ∨ (arrV _ _ _).slots.size ≤ _); rw [arrV_size]; exact Classical.byContradiction hout) (g := F0 m pc ls (.int x :: .int i :: .ref a :: rest)) rfl (rest := rest) rfl (by rw [hb]; exact hdg) t
  simp only [arrV_size] at h1
  exact h1 st
theorem vx_laldZ {D : va_G} {cl : List vw_C} {ws : va_W} {tys : List (ClassId × FieldType)} {a : Nat} (hexec : p.tables.exec = Jvm.exec) (hb : c.code = cc) (hK : va_K D cl tys s) (hP : va_P D cl ws H) (q0 t0 : Nat) {cA : ClassId} {n : Nat} {f : Nat → Int64} (ha : ws[q0]? = some (a, .inl (cA, n, .inr (.inl f)))) (ht : tys[t0]? = some (cA, .long)) {i : Int32} (hout : ¬ vp_in i n) (hdg : decode cc pc = .ok (.laload, 1))
    (k : ∀ tx : String, tx = (toString "Index " ++ toString i ++ toString " out of bounds for length " ++ toString n) → vx_Note p l e R s m args below meth c H locs cells slots Q (F0 m pc ls rest) "java/lang/ArrayIndexOutOfBoundsException" tx) : W p l e R s m args below meth c H locs cells slots Q (F0 m pc ls (.int i :: .ref a :: rest)) := by
  intro T hT X
  obtain ⟨t, st, q⟩ := k _ rfl T hT X
  refine ⟨t, ?_, q⟩
  have h1 := X.laloadOut hexec (by rw [hT]; exact hP q0 _ ha) ((hK.2 t0 _ ht).1 n (fun j => .long (f j))) (j := i) (by show (i < 0 ∨ (arrV _ _ _).slots.size ≤ _); rw [arrV_size]; exact Classical.byContradiction hout) (g := F0 m pc ls (.int i :: .ref a :: rest)) rfl (rest := rest) rfl (by rw [hb]; exact hdg) t
  simp only [arrV_size] at h1
  exact h1 st
theorem vx_lastZ {D : va_G} {cl : List vw_C} {ws : va_W} {tys : List (ClassId × FieldType)} {a : Nat} (hexec : p.tables.exec = Jvm.exec) (hb : c.code = cc) (hK : va_K D cl tys s) (hP : va_P D cl ws H) (q0 t0 : Nat) {cA : ClassId} {n : Nat} {f : Nat → Int64} (ha : ws[q0]? = some (a, .inl (cA, n, .inr (.inl f)))) (ht : tys[t0]? = some (cA, .long)) {i : Int32} {x : Int64} (hout : ¬ vp_in i n) (hdg : decode cc pc = .ok (.lastore, 1))
    (k : ∀ tx : String, tx = (toString "Index " ++ toString i ++ toString " out of bounds for length " ++ toString n) → vx_Note p l e R s m args below meth c H locs cells slots Q (F0 m pc ls rest) "java/lang/ArrayIndexOutOfBoundsException" tx) : W p l e R s m args below meth c H locs cells slots Q (F0 m pc ls (.long x :: .int i :: .ref a :: rest)) := by
  intro T hT X
  obtain ⟨t, st, q⟩ := k _ rfl T hT X
  refine ⟨t, ?_, q⟩
  have h1 := X.lastoreOut hexec (by rw [hT]; exact hP q0 _ ha) ((hK.2 t0 _ ht).1 n (fun j => .long (f j))) (j := i) (by show (i < 0 ∨ (arrV _ _ _).slots.size ≤ _); rw [arrV_size]; exact Classical.byContradiction hout) (g := F0 m pc ls (.long x :: .int i :: .ref a :: rest)) rfl (rest := rest) rfl (by rw [hb]; exact hdg) t
  simp only [arrV_size] at h1
  exact h1 st
theorem vx_faldZ {D : va_G} {cl : List vw_C} {ws : va_W} {tys : List (ClassId × FieldType)} {a : Nat} (hexec : p.tables.exec = Jvm.exec) (hb : c.code = cc) (hK : va_K D cl tys s) (hP : va_P D cl ws H) (q0 t0 : Nat) {cA : ClassId} {n : Nat} {f : Nat → UInt32} (ha : ws[q0]? = some (a, .inl (cA, n, .inr (.inr (.inl f))))) (ht : tys[t0]? = some (cA, .float)) {i : Int32} (hout : ¬ vp_in i n) (hdg : decode cc pc = .ok (.faload, 1))
    (k : ∀ tx : String, tx = (toString "Index " ++ toString i ++ toString " out of bounds for length " ++ toString n) → vx_Note p l e R s m args below meth c H locs cells slots Q (F0 m pc ls rest) "java/lang/ArrayIndexOutOfBoundsException" tx) : W p l e R s m args below meth c H locs cells slots Q (F0 m pc ls (.int i :: .ref a :: rest)) := by
  intro T hT X
  obtain ⟨t, st, q⟩ := k _ rfl T hT X
  refine ⟨t, ?_, q⟩
  have h1 := X.faloadOut hexec (by rw [hT]; exact hP q0 _ ha) ((hK.2 t0 _ ht).1 n (fun j => .float (f j))) (j := i) (by show (i < 0 ∨ (arrV _ _ _).slots.size ≤ _); rw [arrV_size]; exact Classical.byContradiction hout) (g := F0 m pc ls (.int i :: .ref a :: rest)) rfl (rest := rest) rfl (by rw [hb]; exact hdg) t
  simp only [arrV_size] at h1
  exact h1 st
theorem vx_fastZ {D : va_G} {cl : List vw_C} {ws : va_W} {tys : List (ClassId × FieldType)} {a : Nat} (hexec : p.tables.exec = Jvm.exec) (hb : c.code = cc) (hK : va_K D cl tys s) (hP : va_P D cl ws H) (q0 t0 : Nat) {cA : ClassId} {n : Nat} {f : Nat → UInt32} (ha : ws[q0]? = some (a, .inl (cA, n, .inr (.inr (.inl f))))) (ht : tys[t0]? = some (cA, .float)) {i : Int32} {x : UInt32} (hout : ¬ vp_in i n) (hdg : decode cc pc = .ok (.fastore, 1))
    (k : ∀ tx : String, tx = (toString "Index " ++ toString i ++ toString " out of bounds for length " ++ toString n) → vx_Note p l e R s m args below meth c H locs cells slots Q (F0 m pc ls rest) "java/lang/ArrayIndexOutOfBoundsException" tx) : W p l e R s m args below meth c H locs cells slots Q (F0 m pc ls (.float x :: .int i :: .ref a :: rest)) := by
  intro T hT X
  obtain ⟨t, st, q⟩ := k _ rfl T hT X
  refine ⟨t, ?_, q⟩
  have h1 := X.fastoreOut hexec (by rw [hT]; exact hP q0 _ ha) ((hK.2 t0 _ ht).1 n (fun j => .float (f j))) (j := i) (by show (i < 0 ∨ (arrV _ _ _).slots.size ≤ _); rw [arrV_size]; exact Classical.byContradiction hout) (g := F0 m pc ls (.float x :: .int i :: .ref a :: rest)) rfl (rest := rest) rfl (by rw [hb]; exact hdg) t
  simp only [arrV_size] at h1
  exact h1 st
theorem vx_daldZ {D : va_G} {cl : List vw_C} {ws : va_W} {tys : List (ClassId × FieldType)} {a : Nat} (hexec : p.tables.exec = Jvm.exec) (hb : c.code = cc) (hK : va_K D cl tys s) (hP : va_P D cl ws H) (q0 t0 : Nat) {cA : ClassId} {n : Nat} {f : Nat → UInt64} (ha : ws[q0]? = some (a, .inl (cA, n, .inr (.inr (.inr (.inl f)))))) (ht : tys[t0]? = some (cA, .double)) {i : Int32} (hout : ¬ vp_in i n) (hdg : decode cc pc = .ok (.daload, 1))
    (k : ∀ tx : String, tx = (toString "Index " ++ toString i ++ toString " out of bounds for length " ++ toString n) → vx_Note p l e R s m args below meth c H locs cells slots Q (F0 m pc ls rest) "java/lang/ArrayIndexOutOfBoundsException" tx) : W p l e R s m args below meth c H locs cells slots Q (F0 m pc ls (.int i :: .ref a :: rest)) := by
  intro T hT X
  obtain ⟨t, st, q⟩ := k _ rfl T hT X
  refine ⟨t, ?_, q⟩
  have h1 := X.daloadOut hexec (by rw [hT]; exact hP q0 _ ha) ((hK.2 t0 _ ht).1 n (fun j => .double (f j))) (j := i) (by show (i < 0 ∨ (arrV _ _ _).slots.size ≤ _); rw [arrV_size]; exact Classical.byContradiction hout) (g := F0 m pc ls (.int i :: .ref a :: rest)) rfl (rest := rest) rfl (by rw [hb]; exact hdg) t
  simp only [arrV_size] at h1
  exact h1 st
theorem vx_dastZ {D : va_G} {cl : List vw_C} {ws : va_W} {tys : List (ClassId × FieldType)} {a : Nat} (hexec : p.tables.exec = Jvm.exec) (hb : c.code = cc) (hK : va_K D cl tys s) (hP : va_P D cl ws H) (q0 t0 : Nat) {cA : ClassId} {n : Nat} {f : Nat → UInt64} (ha : ws[q0]? = some (a, .inl (cA, n, .inr (.inr (.inr (.inl f)))))) (ht : tys[t0]? = some (cA, .double)) {i : Int32} {x : UInt64} (hout : ¬ vp_in i n) (hdg : decode cc pc = .ok (.dastore, 1))
    (k : ∀ tx : String, tx = (toString "Index " ++ toString i ++ toString " out of bounds for length " ++ toString n) → vx_Note p l e R s m args below meth c H locs cells slots Q (F0 m pc ls rest) "java/lang/ArrayIndexOutOfBoundsException" tx) : W p l e R s m args below meth c H locs cells slots Q (F0 m pc ls (.double x :: .int i :: .ref a :: rest)) := by
  intro T hT X
  obtain ⟨t, st, q⟩ := k _ rfl T hT X
  refine ⟨t, ?_, q⟩
  have h1 := X.dastoreOut hexec (by rw [hT]; exact hP q0 _ ha) ((hK.2 t0 _ ht).1 n (fun j => .double (f j))) (j := i) (by show (i < 0 ∨ (arrV _ _ _).slots.size ≤ _); rw [arrV_size]; exact Classical.byContradiction hout) (g := F0 m pc ls (.double x :: .int i :: .ref a :: rest)) rfl (rest := rest) rfl (by rw [hb]; exact hdg) t
  simp only [arrV_size] at h1
  exact h1 st
theorem vx_arraylengthN (hexec : p.tables.exec = Jvm.exec) (hb : c.code = cc) (hdg : decode cc pc = .ok (.arraylength, 1)) (k : vx_NoteN p l e R s m args below meth c H locs cells slots Q (F0 m pc ls rest)) : W p l e R s m args below meth c H locs cells slots Q (F0 m pc ls (.null :: rest)) := by
  intro T hT X
  obtain ⟨t, st, q⟩ := k T hT X
  exact ⟨t, X.arraylengthNull hexec (g := F0 m pc ls (.null :: rest)) rfl (rest := rest) rfl (by rw [hb]; exact hdg) t st, q⟩
theorem vx_ialoadN (hexec : p.tables.exec = Jvm.exec) (hb : c.code = cc) {i : Int32} (hdg : decode cc pc = .ok (.iaload, 1)) (k : vx_NoteN p l e R s m args below meth c H locs cells slots Q (F0 m pc ls rest)) : W p l e R s m args below meth c H locs cells slots Q (F0 m pc ls (.int i :: .null :: rest)) := by
  intro T hT X
  obtain ⟨t, st, q⟩ := k T hT X
  exact ⟨t, X.ialoadNull hexec (g := F0 m pc ls (.int i :: .null :: rest)) rfl (rest := rest) rfl (by rw [hb]; exact hdg) t st, q⟩
theorem vx_laloadN (hexec : p.tables.exec = Jvm.exec) (hb : c.code = cc) {i : Int32} (hdg : decode cc pc = .ok (.laload, 1)) (k : vx_NoteN p l e R s m args below meth c H locs cells slots Q (F0 m pc ls rest)) : W p l e R s m args below meth c H locs cells slots Q (F0 m pc ls (.int i :: .null :: rest)) := by
  intro T hT X
  obtain ⟨t, st, q⟩ := k T hT X
  exact ⟨t, X.laloadNull hexec (g := F0 m pc ls (.int i :: .null :: rest)) rfl (rest := rest) rfl (by rw [hb]; exact hdg) t st, q⟩
theorem vx_faloadN (hexec : p.tables.exec = Jvm.exec) (hb : c.code = cc) {i : Int32} (hdg : decode cc pc = .ok (.faload, 1)) (k : vx_NoteN p l e R s m args below meth c H locs cells slots Q (F0 m pc ls rest)) : W p l e R s m args below meth c H locs cells slots Q (F0 m pc ls (.int i :: .null :: rest)) := by
  intro T hT X
  obtain ⟨t, st, q⟩ := k T hT X
  exact ⟨t, X.faloadNull hexec (g := F0 m pc ls (.int i :: .null :: rest)) rfl (rest := rest) rfl (by rw [hb]; exact hdg) t st, q⟩
theorem vx_daloadN (hexec : p.tables.exec = Jvm.exec) (hb : c.code = cc) {i : Int32} (hdg : decode cc pc = .ok (.daload, 1)) (k : vx_NoteN p l e R s m args below meth c H locs cells slots Q (F0 m pc ls rest)) : W p l e R s m args below meth c H locs cells slots Q (F0 m pc ls (.int i :: .null :: rest)) := by
  intro T hT X
  obtain ⟨t, st, q⟩ := k T hT X
  exact ⟨t, X.daloadNull hexec (g := F0 m pc ls (.int i :: .null :: rest)) rfl (rest := rest) rfl (by rw [hb]; exact hdg) t st, q⟩
theorem vx_aaloadN (hexec : p.tables.exec = Jvm.exec) (hb : c.code = cc) {i : Int32} (hdg : decode cc pc = .ok (.aaload, 1)) (k : vx_NoteN p l e R s m args below meth c H locs cells slots Q (F0 m pc ls rest)) : W p l e R s m args below meth c H locs cells slots Q (F0 m pc ls (.int i :: .null :: rest)) := by
  intro T hT X
  obtain ⟨t, st, q⟩ := k T hT X
  exact ⟨t, X.aaloadNull hexec (g := F0 m pc ls (.int i :: .null :: rest)) rfl (rest := rest) rfl (by rw [hb]; exact hdg) t st, q⟩
theorem vx_baloadN (hexec : p.tables.exec = Jvm.exec) (hb : c.code = cc) {i : Int32} (hdg : decode cc pc = .ok (.baload, 1)) (k : vx_NoteN p l e R s m args below meth c H locs cells slots Q (F0 m pc ls rest)) : W p l e R s m args below meth c H locs cells slots Q (F0 m pc ls (.int i :: .null :: rest)) := by
  intro T hT X
  obtain ⟨t, st, q⟩ := k T hT X
  exact ⟨t, X.baloadNull hexec (g := F0 m pc ls (.int i :: .null :: rest)) rfl (rest := rest) rfl (by rw [hb]; exact hdg) t st, q⟩
theorem vx_caloadN (hexec : p.tables.exec = Jvm.exec) (hb : c.code = cc) {i : Int32} (hdg : decode cc pc = .ok (.caload, 1)) (k : vx_NoteN p l e R s m args below meth c H locs cells slots Q (F0 m pc ls rest)) : W p l e R s m args below meth c H locs cells slots Q (F0 m pc ls (.int i :: .null :: rest)) := by
  intro T hT X
  obtain ⟨t, st, q⟩ := k T hT X
  exact ⟨t, X.caloadNull hexec (g := F0 m pc ls (.int i :: .null :: rest)) rfl (rest := rest) rfl (by rw [hb]; exact hdg) t st, q⟩
theorem vx_saloadN (hexec : p.tables.exec = Jvm.exec) (hb : c.code = cc) {i : Int32} (hdg : decode cc pc = .ok (.saload, 1)) (k : vx_NoteN p l e R s m args below meth c H locs cells slots Q (F0 m pc ls rest)) : W p l e R s m args below meth c H locs cells slots Q (F0 m pc ls (.int i :: .null :: rest)) := by
  intro T hT X
  obtain ⟨t, st, q⟩ := k T hT X
  exact ⟨t, X.saloadNull hexec (g := F0 m pc ls (.int i :: .null :: rest)) rfl (rest := rest) rfl (by rw [hb]; exact hdg) t st, q⟩
theorem vx_iastoreN (hexec : p.tables.exec = Jvm.exec) (hb : c.code = cc) {x : Int32} {i : Int32} (hdg : decode cc pc = .ok (.iastore, 1)) (k : vx_NoteN p l e R s m args below meth c H locs cells slots Q (F0 m pc ls rest)) : W p l e R s m args below meth c H locs cells slots Q (F0 m pc ls (.int x :: .int i :: .null :: rest)) := by
  intro T hT X
  obtain ⟨t, st, q⟩ := k T hT X
  exact ⟨t, X.iastoreNull hexec (g := F0 m pc ls (.int x :: .int i :: .null :: rest)) rfl (rest := rest) rfl (by rw [hb]; exact hdg) t st, q⟩
theorem vx_lastoreN (hexec : p.tables.exec = Jvm.exec) (hb : c.code = cc) {x : Int64} {i : Int32} (hdg : decode cc pc = .ok (.lastore, 1)) (k : vx_NoteN p l e R s m args below meth c H locs cells slots Q (F0 m pc ls rest)) : W p l e R s m args below meth c H locs cells slots Q (F0 m pc ls (.long x :: .int i :: .null :: rest)) := by
  intro T hT X
  obtain ⟨t, st, q⟩ := k T hT X
  exact ⟨t, X.lastoreNull hexec (g := F0 m pc ls (.long x :: .int i :: .null :: rest)) rfl (rest := rest) rfl (by rw [hb]; exact hdg) t st, q⟩
theorem vx_fastoreN (hexec : p.tables.exec = Jvm.exec) (hb : c.code = cc) {x : UInt32} {i : Int32} (hdg : decode cc pc = .ok (.fastore, 1)) (k : vx_NoteN p l e R s m args below meth c H locs cells slots Q (F0 m pc ls rest)) : W p l e R s m args below meth c H locs cells slots Q (F0 m pc ls (.float x :: .int i :: .null :: rest)) := by
  intro T hT X
  obtain ⟨t, st, q⟩ := k T hT X
  exact ⟨t, X.fastoreNull hexec (g := F0 m pc ls (.float x :: .int i :: .null :: rest)) rfl (rest := rest) rfl (by rw [hb]; exact hdg) t st, q⟩
theorem vx_dastoreN (hexec : p.tables.exec = Jvm.exec) (hb : c.code = cc) {x : UInt64} {i : Int32} (hdg : decode cc pc = .ok (.dastore, 1)) (k : vx_NoteN p l e R s m args below meth c H locs cells slots Q (F0 m pc ls rest)) : W p l e R s m args below meth c H locs cells slots Q (F0 m pc ls (.double x :: .int i :: .null :: rest)) := by
  intro T hT X
  obtain ⟨t, st, q⟩ := k T hT X
  exact ⟨t, X.dastoreNull hexec (g := F0 m pc ls (.double x :: .int i :: .null :: rest)) rfl (rest := rest) rfl (by rw [hb]; exact hdg) t st, q⟩
theorem vx_bastoreN (hexec : p.tables.exec = Jvm.exec) (hb : c.code = cc) {x : Int32} {i : Int32} (hdg : decode cc pc = .ok (.bastore, 1)) (k : vx_NoteN p l e R s m args below meth c H locs cells slots Q (F0 m pc ls rest)) : W p l e R s m args below meth c H locs cells slots Q (F0 m pc ls (.int x :: .int i :: .null :: rest)) := by
  intro T hT X
  obtain ⟨t, st, q⟩ := k T hT X
  exact ⟨t, X.bastoreNull hexec (g := F0 m pc ls (.int x :: .int i :: .null :: rest)) rfl (rest := rest) rfl (by rw [hb]; exact hdg) t st, q⟩
theorem vx_castoreN (hexec : p.tables.exec = Jvm.exec) (hb : c.code = cc) {x : Int32} {i : Int32} (hdg : decode cc pc = .ok (.castore, 1)) (k : vx_NoteN p l e R s m args below meth c H locs cells slots Q (F0 m pc ls rest)) : W p l e R s m args below meth c H locs cells slots Q (F0 m pc ls (.int x :: .int i :: .null :: rest)) := by
  intro T hT X
  obtain ⟨t, st, q⟩ := k T hT X
  exact ⟨t, X.castoreNull hexec (g := F0 m pc ls (.int x :: .int i :: .null :: rest)) rfl (rest := rest) rfl (by rw [hb]; exact hdg) t st, q⟩
theorem vx_sastoreN (hexec : p.tables.exec = Jvm.exec) (hb : c.code = cc) {x : Int32} {i : Int32} (hdg : decode cc pc = .ok (.sastore, 1)) (k : vx_NoteN p l e R s m args below meth c H locs cells slots Q (F0 m pc ls rest)) : W p l e R s m args below meth c H locs cells slots Q (F0 m pc ls (.int x :: .int i :: .null :: rest)) := by
  intro T hT X
  obtain ⟨t, st, q⟩ := k T hT X
  exact ⟨t, X.sastoreNull hexec (g := F0 m pc ls (.int x :: .int i :: .null :: rest)) rfl (rest := rest) rfl (by rw [hb]; exact hdg) t st, q⟩
theorem vx_invokeN {own C : String} {index maxL : Nat} {y : MethodName} {bytes : ByteArray} {ret : Option FieldType} (hexec : p.tables.exec = Jvm.exec) (hb : c.code = cc) (hown : s.vm.findClass own = some m.cls) (hlink : (Cond.methodLink own index y).before args s = true) (hinst : (Cond.instanceMethod y).before args s = true) (hcode : (Cond.code y bytes maxL ret).before args s = true) (hsel : (Cond.selects C y y).before args s = true)
    (hx : y.cls ≠ "java/lang/invoke/MethodHandle" ∧ y.cls ≠ "java/lang/invoke/VarHandle") {As : List Value} (hlen : (parseMethodDescriptor y.desc).map (fun d => d.parameters.length) = some As.length) (hdg : decode cc pc = .ok (.invokevirtual index, 3))
    (k : vx_NoteN p l e R s m args below meth c H locs cells slots Q (F0 m pc ls rest)) {st0 : List Value} (hst : st0 = As.reverse ++ .null :: rest) : W p l e R s m args below meth c H locs cells slots Q (F0 m pc ls st0) := by
  intro T hT X
  obtain ⟨r0, r, hn, hrm, hstR, hsigR⟩ := va_Decl.of hinst hcode
  obtain ⟨c2, r2, m2, q1, q2, q3, q4, kP, hkP, hkPi⟩ := Cond.selects_spec hsel
  cases hn.symm.trans q3
  have hl9 : As.length = r.sig.parameters.length := by
    rw [hsigR] at hlen
    exact (Option.some.inj hlen).symm
  obtain ⟨vm', X1, st1⟩ := X.invokevirtualNull hexec hown hlink hn hrm hstR hkP hkPi hx (g := F0 m pc ls st0) rfl (argsL := As) (rest := rest) hl9 hst (by rw [hb]; exact hdg)
  obtain ⟨t, st, q⟩ := k (T.setVm vm') hT X1
  exact ⟨t, st1 t st, q⟩
theorem vx_newarrayZ {atype : ArrayType} (hexec : p.tables.exec = Jvm.exec) (hb : c.code = cc) {n : Int32} (h0 : n < 0) (hdg : decode cc pc = .ok (.newarray atype, 2)) (k : ∀ tx : String, tx = toString n → vx_Note p l e R s m args below meth c H locs cells slots Q (F0 m pc ls rest) "java/lang/NegativeArraySizeException" tx) : W p l e R s m args below meth c H locs cells slots Q (F0 m pc ls (.int n :: rest)) := by
  intro T hT X
  obtain ⟨t, st, q⟩ := k _ rfl T hT X
  exact ⟨t, X.newarrayNegative hexec (g := F0 m pc ls (.int n :: rest)) rfl h0 (rest := rest) rfl (by rw [hb]; exact hdg) t st, q⟩
end
end VXM
/-! ===== END ===== -/
end
section
/-! ===== BEGIN printed: names, fields, word lists, decode rows ===== -/
def RX0 : String := "TypedHall$GridItem"
def TX0 : u_T := fun k => match k with
  | _ => ("TypedHall$GridItem", "rows", "[[I", true)
def tyX0 : Nat → FieldType := fun k => match k with
  | _ => .array (.array .int)
abbrev wsX00 : List Cond := u_ws RX0 TX0 1
theorem nmX0 : ∀ a, a < 1 → ∀ b, b < 1 → a ≠ b → (TX0 a).2.1 ≠ (TX0 b).2.1 := by decide +kernel
theorem tyX0_ok : ∀ k, k < 1 → parseFieldDescriptor (TX0 k).2.2.1 = some (tyX0 k) := by decide +kernel
abbrev cX0_init : ByteArray := prog_2_method_1_code
def yX0_init : MethodName := ⟨RX0, "<init>", "(II)V"⟩
abbrev cX0_sort : ByteArray := prog_2_method_2_code
def yX0_sort : MethodName := ⟨RX0, "sort", "()I"⟩
def RX1 : String := "TypedHall$Item"
def TX1 : u_T := fun k => match k with
  | _ => ("", "", "", false)
def tyX1 : Nat → FieldType := fun k => match k with
  | _ => .int
abbrev wsX10 : List Cond := u_ws RX1 TX1 0
theorem nmX1 : ∀ a, a < 0 → ∀ b, b < 0 → a ≠ b → (TX1 a).2.1 ≠ (TX1 b).2.1 := by decide +kernel
theorem tyX1_ok : ∀ k, k < 0 → parseFieldDescriptor (TX1 k).2.2.1 = some (tyX1 k) := by decide +kernel
abbrev cX1_init : ByteArray := prog_3_method_1_code
def yX1_init : MethodName := ⟨RX1, "<init>", "()V"⟩
abbrev cX1_ground : ByteArray := prog_3_method_3_code
def yX1_ground : MethodName := ⟨RX1, "ground", "()LTypedHall$VectorItem;"⟩
abbrev cX1_shift : ByteArray := prog_3_method_4_code
def yX1_shift : MethodName := ⟨RX1, "shift", "()I"⟩
abbrev cX1_windows : ByteArray := prog_3_method_5_code
def yX1_windows : MethodName := ⟨RX1, "windows", "()I"⟩
def RX2 : String := "TypedHall$RecordItem"
def TX2 : u_T := fun k => match k with
  | 0 => ("TypedHall$RecordItem", "number", "J", false)
  | _ => ("TypedHall$RecordItem", "next", "LTypedHall$RecordItem;", false)
def tyX2 : Nat → FieldType := fun k => match k with
  | 0 => .long
  | _ => .object "TypedHall$RecordItem"
abbrev wsX20 : List Cond := u_ws RX2 TX2 2
theorem nmX2 : ∀ a, a < 2 → ∀ b, b < 2 → a ≠ b → (TX2 a).2.1 ≠ (TX2 b).2.1 := by decide +kernel
theorem tyX2_ok : ∀ k, k < 2 → parseFieldDescriptor (TX2 k).2.2.1 = some (tyX2 k) := by decide +kernel
abbrev cX2_init : ByteArray := prog_4_method_1_code
def yX2_init : MethodName := ⟨RX2, "<init>", "()V"⟩
abbrev cX2_sort : ByteArray := prog_4_method_2_code
def yX2_sort : MethodName := ⟨RX2, "sort", "()I"⟩
def RX3 : String := "TypedHall$VectorItem"
def TX3 : u_T := fun k => match k with
  | 0 => ("TypedHall$VectorItem", "sort", "I", true)
  | 1 => ("TypedHall$VectorItem", "numbers", "[J", false)
  | _ => ("TypedHall$VectorItem", "items", "[LTypedHall$Item;", false)
def tyX3 : Nat → FieldType := fun k => match k with
  | 0 => .int
  | 1 => .array .long
  | _ => .array (.object "TypedHall$Item")
abbrev wsX30 : List Cond := u_ws RX3 TX3 3
theorem nmX3 : ∀ a, a < 3 → ∀ b, b < 3 → a ≠ b → (TX3 a).2.1 ≠ (TX3 b).2.1 := by decide +kernel
theorem tyX3_ok : ∀ k, k < 3 → parseFieldDescriptor (TX3 k).2.2.1 = some (tyX3 k) := by decide +kernel
abbrev cX3_init : ByteArray := prog_5_method_1_code
def yX3_init : MethodName := ⟨RX3, "<init>", "(II)V"⟩
abbrev cX3_sort : ByteArray := prog_5_method_2_code
def yX3_sort : MethodName := ⟨RX3, "sort", "()I"⟩
abbrev cX3_ground : ByteArray := prog_5_method_3_code
def yX3_ground : MethodName := ⟨RX3, "ground", "()LTypedHall$VectorItem;"⟩
abbrev cX3_isLost : ByteArray := prog_5_method_4_code
def yX3_isLost : MethodName := ⟨RX3, "isLost", "()Z"⟩
abbrev cX3_length : ByteArray := prog_5_method_5_code
def yX3_length : MethodName := ⟨RX3, "length", "()I"⟩
abbrev cX3_dropStorage : ByteArray := prog_5_method_6_code
def yX3_dropStorage : MethodName := ⟨RX3, "dropStorage", "()V"⟩
abbrev cX3_changeLength : ByteArray := prog_5_method_7_code
def yX3_changeLength : MethodName := ⟨RX3, "changeLength", "(I)I"⟩
abbrev cX3_firstItems : ByteArray := prog_5_method_8_code
def yX3_firstItems : MethodName := ⟨RX3, "firstItems", "(II)[LTypedHall$Item;"⟩
def RX4 : String := "TypedHall$WindowItem"
def TX4 : u_T := fun k => match k with
  | 0 => ("TypedHall$WindowItem", "ground", "LTypedHall$VectorItem;", true)
  | 1 => ("TypedHall$WindowItem", "shift", "I", true)
  | _ => ("TypedHall$WindowItem", "windows", "I", true)
def tyX4 : Nat → FieldType := fun k => match k with
  | 0 => .object "TypedHall$VectorItem"
  | 1 => .int
  | _ => .int
abbrev wsX40 : List Cond := u_ws RX4 TX4 3
theorem nmX4 : ∀ a, a < 3 → ∀ b, b < 3 → a ≠ b → (TX4 a).2.1 ≠ (TX4 b).2.1 := by decide +kernel
theorem tyX4_ok : ∀ k, k < 3 → parseFieldDescriptor (TX4 k).2.2.1 = some (tyX4 k) := by decide +kernel
abbrev cX4_init : ByteArray := prog_6_method_1_code
def yX4_init : MethodName := ⟨RX4, "<init>", "(LTypedHall$VectorItem;II)V"⟩
abbrev cX4_sort : ByteArray := prog_6_method_2_code
def yX4_sort : MethodName := ⟨RX4, "sort", "()I"⟩
abbrev cX4_ground : ByteArray := prog_6_method_3_code
def yX4_ground : MethodName := ⟨RX4, "ground", "()LTypedHall$VectorItem;"⟩
abbrev cX4_shift : ByteArray := prog_6_method_4_code
def yX4_shift : MethodName := ⟨RX4, "shift", "()I"⟩
abbrev cX4_windows : ByteArray := prog_6_method_5_code
def yX4_windows : MethodName := ⟨RX4, "windows", "()I"⟩
def RX5 : String := "TypedHall"
def TX5 : u_T := fun k => match k with
  | 0 => ("TypedHall", "held", "[LTypedHall$Item;", true)
  | _ => ("TypedHall", "made", "I", false)
def tyX5 : Nat → FieldType := fun k => match k with
  | 0 => .array (.object "TypedHall$Item")
  | _ => .int
abbrev wsX50 : List Cond := u_ws RX5 TX5 2
theorem nmX5 : ∀ a, a < 2 → ∀ b, b < 2 → a ≠ b → (TX5 a).2.1 ≠ (TX5 b).2.1 := by decide +kernel
theorem tyX5_ok : ∀ k, k < 2 → parseFieldDescriptor (TX5 k).2.2.1 = some (tyX5 k) := by decide +kernel
abbrev cX5_init : ByteArray := prog_1_method_1_code
def yX5_init : MethodName := ⟨RX5, "<init>", "()V"⟩
abbrev cX5_make : ByteArray := prog_1_method_2_code
def yX5_make : MethodName := ⟨RX5, "make", "(III)I"⟩
abbrev cX5_grid : ByteArray := prog_1_method_3_code
def yX5_grid : MethodName := ⟨RX5, "grid", "(III)I"⟩
abbrev cX5_record : ByteArray := prog_1_method_4_code
def yX5_record : MethodName := ⟨RX5, "record", "(I)I"⟩
abbrev cX5_window : ByteArray := prog_1_method_5_code
def yX5_window : MethodName := ⟨RX5, "window", "(III)I"⟩
abbrev cX5_copy : ByteArray := prog_1_method_6_code
def yX5_copy : MethodName := ⟨RX5, "copy", "(II)Z"⟩
abbrev cX5_lose : ByteArray := prog_1_method_7_code
def yX5_lose : MethodName := ⟨RX5, "lose", "(II)I"⟩
abbrev cX5_resize : ByteArray := prog_1_method_8_code
def yX5_resize : MethodName := ⟨RX5, "resize", "(II)I"⟩
abbrev cX5_size : ByteArray := prog_1_method_9_code
def yX5_size : MethodName := ⟨RX5, "size", "(I)I"⟩
abbrev cX5_take : ByteArray := prog_1_method_10_code
def yX5_take : MethodName := ⟨RX5, "take", "(II)J"⟩
abbrev cX5_put : ByteArray := prog_1_method_11_code
def yX5_put : MethodName := ⟨RX5, "put", "(IIJ)J"⟩
abbrev cX5_cell : ByteArray := prog_1_method_12_code
def yX5_cell : MethodName := ⟨RX5, "cell", "(III)I"⟩
abbrev cX5_setCell : ByteArray := prog_1_method_13_code
def yX5_setCell : MethodName := ⟨RX5, "setCell", "(IIIII)V"⟩
abbrev cX5_refer : ByteArray := prog_1_method_14_code
def yX5_refer : MethodName := ⟨RX5, "refer", "(III)V"⟩
abbrev cX5_fetch : ByteArray := prog_1_method_15_code
def yX5_fetch : MethodName := ⟨RX5, "fetch", "(III)I"⟩
abbrev cX5_link : ByteArray := prog_1_method_16_code
def yX5_link : MethodName := ⟨RX5, "link", "(II)V"⟩
abbrev cX5_follow : ByteArray := prog_1_method_17_code
def yX5_follow : MethodName := ⟨RX5, "follow", "(II)Z"⟩
abbrev cX5_exchange : ByteArray := prog_1_method_18_code
def yX5_exchange : MethodName := ⟨RX5, "exchange", "(IJ)J"⟩
abbrev cX5_total : ByteArray := prog_1_method_19_code
def yX5_total : MethodName := ⟨RX5, "total", "(I)J"⟩
abbrev cX5_combine : ByteArray := prog_1_method_20_code
def yX5_combine : MethodName := ⟨RX5, "combine", "(IIIII)J"⟩
abbrev cX5_move : ByteArray := prog_1_method_21_code
def yX5_move : MethodName := ⟨RX5, "move", "(IIIII)I"⟩
abbrev cX5_holdNew : ByteArray := prog_1_method_22_code
def yX5_holdNew : MethodName := ⟨RX5, "holdNew", "(ILTypedHall$Item;)I"⟩
abbrev cX5_itemIn : ByteArray := prog_1_method_23_code
def yX5_itemIn : MethodName := ⟨RX5, "itemIn", "(I)LTypedHall$Item;"⟩
abbrev cX5_vectorOf : ByteArray := prog_1_method_24_code
def yX5_vectorOf : MethodName := ⟨RX5, "vectorOf", "(LTypedHall$Item;)LTypedHall$VectorItem;"⟩
abbrev cX5_gridIn : ByteArray := prog_1_method_25_code
def yX5_gridIn : MethodName := ⟨RX5, "gridIn", "(I)LTypedHall$GridItem;"⟩
abbrev cX5_recordIn : ByteArray := prog_1_method_26_code
def yX5_recordIn : MethodName := ⟨RX5, "recordIn", "(I)LTypedHall$RecordItem;"⟩
abbrev cX5_recordOrNone : ByteArray := prog_1_method_27_code
def yX5_recordOrNone : MethodName := ⟨RX5, "recordOrNone", "(I)LTypedHall$RecordItem;"⟩
abbrev cX5_loseRow : ByteArray := prog_1_method_28_code
def yX5_loseRow : MethodName := ⟨RX5, "loseRow", "(LTypedHall$GridItem;I)I"⟩
abbrev cX5_loseStorage : ByteArray := prog_1_method_29_code
def yX5_loseStorage : MethodName := ⟨RX5, "loseStorage", "(LTypedHall$VectorItem;)I"⟩
abbrev cX5_takeElement : ByteArray := prog_1_method_30_code
def yX5_takeElement : MethodName := ⟨RX5, "takeElement", "(LTypedHall$Item;I)J"⟩
abbrev cX5_putElement : ByteArray := prog_1_method_31_code
def yX5_putElement : MethodName := ⟨RX5, "putElement", "(LTypedHall$Item;IJ)J"⟩
abbrev cX5_placeOf : ByteArray := prog_1_method_32_code
def yX5_placeOf : MethodName := ⟨RX5, "placeOf", "(LTypedHall$Item;I)I"⟩
abbrev cX5_fitted : ByteArray := prog_1_method_33_code
def yX5_fitted : MethodName := ⟨RX5, "fitted", "(IJ)J"⟩
abbrev cX5_reckon : ByteArray := prog_1_method_34_code
def yX5_reckon : MethodName := ⟨RX5, "reckon", "(IJJ)J"⟩
abbrev cX5_requireRegister : ByteArray := prog_1_method_35_code
def yX5_requireRegister : MethodName := ⟨RX5, "requireRegister", "(I)V"⟩
abbrev cX5_requireArgument : ByteArray := prog_1_method_36_code
def yX5_requireArgument : MethodName := ⟨RX5, "requireArgument", "(Z)V"⟩
abbrev cX5_requireSupported : ByteArray := prog_1_method_37_code
def yX5_requireSupported : MethodName := ⟨RX5, "requireSupported", "(Z)V"⟩
abbrev cX5_requireDivisor : ByteArray := prog_1_method_38_code
def yX5_requireDivisor : MethodName := ⟨RX5, "requireDivisor", "(J)V"⟩
abbrev cX5_requireCell : ByteArray := prog_1_method_39_code
def yX5_requireCell : MethodName := ⟨RX5, "requireCell", "([II)V"⟩
abbrev cX5_requirePresent : ByteArray := prog_1_method_40_code
def yX5_requirePresent : MethodName := ⟨RX5, "requirePresent", "(Z)V"⟩
abbrev cX5_requireIndex : ByteArray := prog_1_method_41_code
def yX5_requireIndex : MethodName := ⟨RX5, "requireIndex", "(II)V"⟩
abbrev cX5_requireSize : ByteArray := prog_1_method_42_code
def yX5_requireSize : MethodName := ⟨RX5, "requireSize", "(I)V"⟩
def RX6 : String := "TypedHallModel"
def TX6 : u_T := fun k => match k with
  | 0 => ("TypedHallModel", "register", "[I", true)
  | 1 => ("TypedHallModel", "kind", "[I", true)
  | 2 => ("TypedHallModel", "length", "[I", true)
  | 3 => ("TypedHallModel", "width", "[I", true)
  | 4 => ("TypedHallModel", "base", "[I", true)
  | 5 => ("TypedHallModel", "offset", "[I", true)
  | 6 => ("TypedHallModel", "strip", "[J", true)
  | 7 => ("TypedHallModel", "lost", "[Z", true)
  | 8 => ("TypedHallModel", "made", "I", false)
  | 9 => ("TypedHallModel", "vector", "I", false)
  | 10 => ("TypedHallModel", "element", "I", false)
  | _ => ("TypedHallModel", "code", "I", false)
def tyX6 : Nat → FieldType := fun k => match k with
  | 0 => .array .int
  | 1 => .array .int
  | 2 => .array .int
  | 3 => .array .int
  | 4 => .array .int
  | 5 => .array .int
  | 6 => .array .long
  | 7 => .array .boolean
  | 8 => .int
  | 9 => .int
  | 10 => .int
  | _ => .int
abbrev wsX60 : List Cond := u_ws RX6 TX6 12
theorem nmX6 : ∀ a, a < 12 → ∀ b, b < 12 → a ≠ b → (TX6 a).2.1 ≠ (TX6 b).2.1 := by decide +kernel
theorem tyX6_ok : ∀ k, k < 12 → parseFieldDescriptor (TX6 k).2.2.1 = some (tyX6 k) := by decide +kernel
abbrev cX6_init : ByteArray := prog_8_method_1_code
def yX6_init : MethodName := ⟨RX6, "<init>", "()V"⟩
abbrev cX6_thrown : ByteArray := prog_8_method_2_code
def yX6_thrown : MethodName := ⟨RX6, "thrown", "()I"⟩
abbrev cX6_in : ByteArray := prog_8_method_3_code
def yX6_in : MethodName := ⟨RX6, "in", "(III)Z"⟩
abbrev cX6_good : ByteArray := prog_8_method_4_code
def yX6_good : MethodName := ⟨RX6, "good", "(ZI)Z"⟩
abbrev cX6_known : ByteArray := prog_8_method_5_code
def yX6_known : MethodName := ⟨RX6, "known", "(II)Z"⟩
abbrev cX6_fresh : ByteArray := prog_8_method_6_code
def yX6_fresh : MethodName := ⟨RX6, "fresh", "(III)I"⟩
abbrev cX6_make : ByteArray := prog_8_method_7_code
def yX6_make : MethodName := ⟨RX6, "make", "(III)I"⟩
abbrev cX6_grid : ByteArray := prog_8_method_8_code
def yX6_grid : MethodName := ⟨RX6, "grid", "(III)I"⟩
abbrev cX6_record : ByteArray := prog_8_method_9_code
def yX6_record : MethodName := ⟨RX6, "record", "(I)I"⟩
abbrev cX6_bottom : ByteArray := prog_8_method_10_code
def yX6_bottom : MethodName := ⟨RX6, "bottom", "(I)I"⟩
abbrev cX6_sort : ByteArray := prog_8_method_11_code
def yX6_sort : MethodName := ⟨RX6, "sort", "(I)I"⟩
abbrev cX6_windows : ByteArray := prog_8_method_12_code
def yX6_windows : MethodName := ⟨RX6, "windows", "(I)I"⟩
abbrev cX6_window : ByteArray := prog_8_method_13_code
def yX6_window : MethodName := ⟨RX6, "window", "(III)I"⟩
abbrev cX6_copy : ByteArray := prog_8_method_14_code
def yX6_copy : MethodName := ⟨RX6, "copy", "(II)Z"⟩
abbrev cX6_lose : ByteArray := prog_8_method_15_code
def yX6_lose : MethodName := ⟨RX6, "lose", "(II)I"⟩
abbrev cX6_resize : ByteArray := prog_8_method_16_code
def yX6_resize : MethodName := ⟨RX6, "resize", "(II)I"⟩
abbrev cX6_size : ByteArray := prog_8_method_17_code
def yX6_size : MethodName := ⟨RX6, "size", "(I)I"⟩
abbrev cX6_find : ByteArray := prog_8_method_18_code
def yX6_find : MethodName := ⟨RX6, "find", "(II)I"⟩
abbrev cX6_fit : ByteArray := prog_8_method_19_code
def yX6_fit : MethodName := ⟨RX6, "fit", "(IJ)J"⟩
abbrev cX6_here : ByteArray := prog_8_method_20_code
def yX6_here : MethodName := ⟨RX6, "here", "()J"⟩
abbrev cX6_set : ByteArray := prog_8_method_21_code
def yX6_set : MethodName := ⟨RX6, "set", "(J)J"⟩
abbrev cX6_reach : ByteArray := prog_8_method_22_code
def yX6_reach : MethodName := ⟨RX6, "reach", "(III)Z"⟩
abbrev cX6_take : ByteArray := prog_8_method_23_code
def yX6_take : MethodName := ⟨RX6, "take", "(II)J"⟩
abbrev cX6_put : ByteArray := prog_8_method_24_code
def yX6_put : MethodName := ⟨RX6, "put", "(IIJ)J"⟩
abbrev cX6_row : ByteArray := prog_8_method_25_code
def yX6_row : MethodName := ⟨RX6, "row", "(II)Z"⟩
abbrev cX6_column : ByteArray := prog_8_method_26_code
def yX6_column : MethodName := ⟨RX6, "column", "(III)Z"⟩
abbrev cX6_cell : ByteArray := prog_8_method_27_code
def yX6_cell : MethodName := ⟨RX6, "cell", "(III)I"⟩
abbrev cX6_setCell : ByteArray := prog_8_method_28_code
def yX6_setCell : MethodName := ⟨RX6, "setCell", "(IIIII)V"⟩
abbrev cX6_reachItem : ByteArray := prog_8_method_29_code
def yX6_reachItem : MethodName := ⟨RX6, "reachItem", "(II)Z"⟩
abbrev cX6_refer : ByteArray := prog_8_method_30_code
def yX6_refer : MethodName := ⟨RX6, "refer", "(III)V"⟩
abbrev cX6_fetch : ByteArray := prog_8_method_31_code
def yX6_fetch : MethodName := ⟨RX6, "fetch", "(III)I"⟩
abbrev cX6_isRecord : ByteArray := prog_8_method_32_code
def yX6_isRecord : MethodName := ⟨RX6, "isRecord", "(I)Z"⟩
abbrev cX6_link : ByteArray := prog_8_method_33_code
def yX6_link : MethodName := ⟨RX6, "link", "(II)V"⟩
abbrev cX6_follow : ByteArray := prog_8_method_34_code
def yX6_follow : MethodName := ⟨RX6, "follow", "(II)Z"⟩
abbrev cX6_exchange : ByteArray := prog_8_method_35_code
def yX6_exchange : MethodName := ⟨RX6, "exchange", "(IJ)J"⟩
abbrev cX6_total : ByteArray := prog_8_method_36_code
def yX6_total : MethodName := ⟨RX6, "total", "(I)J"⟩
abbrev cX6_both : ByteArray := prog_8_method_37_code
def yX6_both : MethodName := ⟨RX6, "both", "(III)Z"⟩
abbrev cX6_reckon : ByteArray := prog_8_method_38_code
def yX6_reckon : MethodName := ⟨RX6, "reckon", "(IJJ)J"⟩
abbrev cX6_combine : ByteArray := prog_8_method_39_code
def yX6_combine : MethodName := ⟨RX6, "combine", "(IIIII)J"⟩
abbrev cX6_move : ByteArray := prog_8_method_40_code
def yX6_move : MethodName := ⟨RX6, "move", "(IIIII)I"⟩
def RJx00060 : String := "java/lang/ArrayIndexOutOfBoundsException"
def TJx00060 : u_T := fun k => match k with
  | 0 => ("java/lang/Throwable", "backtrace", "Ljava/lang/Object;", false)
  | 1 => ("java/lang/Throwable", "detailMessage", "Ljava/lang/String;", false)
  | 2 => ("java/lang/Throwable", "cause", "Ljava/lang/Throwable;", false)
  | 3 => ("java/lang/Throwable", "stackTrace", "[Ljava/lang/StackTraceElement;", false)
  | 4 => ("java/lang/Throwable", "depth", "I", false)
  | _ => ("java/lang/Throwable", "suppressedExceptions", "Ljava/util/List;", false)
def tyJx00060 : Nat → FieldType := fun k => match k with
  | 0 => .object "java/lang/Object"
  | 1 => .object "java/lang/String"
  | 2 => .object "java/lang/Throwable"
  | 3 => .array (.object "java/lang/StackTraceElement")
  | 4 => .int
  | _ => .object "java/util/List"
abbrev wsJx000600 : List Cond := u_ws RJx00060 TJx00060 6
theorem nmJx00060 : ∀ a, a < 6 → ∀ b, b < 6 → a ≠ b → (TJx00060 a).2.1 ≠ (TJx00060 b).2.1 := by decide +kernel
theorem tyJx00060_ok : ∀ k, k < 6 → parseFieldDescriptor (TJx00060 k).2.2.1 = some (tyJx00060 k) := by decide +kernel
abbrev cJx00060_init_a7421 : ByteArray := prog_10_method_2_code
def yJx00060_init_a7421 : MethodName := ⟨RJx00060, "<init>", "(Ljava/lang/String;)V"⟩
def RJx8e188 : String := "java/lang/Cloneable"
def TJx8e188 : u_T := fun k => match k with
  | _ => ("", "", "", false)
def tyJx8e188 : Nat → FieldType := fun k => match k with
  | _ => .int
abbrev wsJx8e1880 : List Cond := u_ws RJx8e188 TJx8e188 0
theorem nmJx8e188 : ∀ a, a < 0 → ∀ b, b < 0 → a ≠ b → (TJx8e188 a).2.1 ≠ (TJx8e188 b).2.1 := by decide +kernel
theorem tyJx8e188_ok : ∀ k, k < 0 → parseFieldDescriptor (TJx8e188 k).2.2.1 = some (tyJx8e188 k) := by decide +kernel
def RJ9 : String := "java/lang/Math"
def TJ9 : u_T := fun k => match k with
  | _ => ("", "", "", false)
def tyJ9 : Nat → FieldType := fun k => match k with
  | _ => .int
abbrev wsJ90 : List Cond := u_ws RJ9 TJ9 0
theorem nmJ9 : ∀ a, a < 0 → ∀ b, b < 0 → a ≠ b → (TJ9 a).2.1 ≠ (TJ9 b).2.1 := by decide +kernel
theorem tyJ9_ok : ∀ k, k < 0 → parseFieldDescriptor (TJ9 k).2.2.1 = some (tyJ9 k) := by decide +kernel
abbrev cJ9_min_7cf53 : ByteArray := prog_16_method_69_code
def yJ9_min_7cf53 : MethodName := ⟨RJ9, "min", "(II)I"⟩
def RJxde1cd : String := "java/lang/NegativeArraySizeException"
def TJxde1cd : u_T := fun k => match k with
  | 0 => ("java/lang/Throwable", "backtrace", "Ljava/lang/Object;", false)
  | 1 => ("java/lang/Throwable", "detailMessage", "Ljava/lang/String;", false)
  | 2 => ("java/lang/Throwable", "cause", "Ljava/lang/Throwable;", false)
  | 3 => ("java/lang/Throwable", "stackTrace", "[Ljava/lang/StackTraceElement;", false)
  | 4 => ("java/lang/Throwable", "depth", "I", false)
  | _ => ("java/lang/Throwable", "suppressedExceptions", "Ljava/util/List;", false)
def tyJxde1cd : Nat → FieldType := fun k => match k with
  | 0 => .object "java/lang/Object"
  | 1 => .object "java/lang/String"
  | 2 => .object "java/lang/Throwable"
  | 3 => .array (.object "java/lang/StackTraceElement")
  | 4 => .int
  | _ => .object "java/util/List"
abbrev wsJxde1cd0 : List Cond := u_ws RJxde1cd TJxde1cd 6
theorem nmJxde1cd : ∀ a, a < 6 → ∀ b, b < 6 → a ≠ b → (TJxde1cd a).2.1 ≠ (TJxde1cd b).2.1 := by decide +kernel
theorem tyJxde1cd_ok : ∀ k, k < 6 → parseFieldDescriptor (TJxde1cd k).2.2.1 = some (tyJxde1cd k) := by decide +kernel
abbrev cJxde1cd_init_a7421 : ByteArray := prog_17_method_2_code
def yJxde1cd_init_a7421 : MethodName := ⟨RJxde1cd, "<init>", "(Ljava/lang/String;)V"⟩
def RJx5d777 : String := "java/lang/NullPointerException"
def TJx5d777 : u_T := fun k => match k with
  | 0 => ("java/lang/Throwable", "backtrace", "Ljava/lang/Object;", false)
  | 1 => ("java/lang/Throwable", "detailMessage", "Ljava/lang/String;", false)
  | 2 => ("java/lang/Throwable", "cause", "Ljava/lang/Throwable;", false)
  | 3 => ("java/lang/Throwable", "stackTrace", "[Ljava/lang/StackTraceElement;", false)
  | 4 => ("java/lang/Throwable", "depth", "I", false)
  | 5 => ("java/lang/Throwable", "suppressedExceptions", "Ljava/util/List;", false)
  | 6 => ("java/lang/NullPointerException", "extendedMessageState", "I", false)
  | _ => ("java/lang/NullPointerException", "extendedMessage", "Ljava/lang/String;", false)
def tyJx5d777 : Nat → FieldType := fun k => match k with
  | 0 => .object "java/lang/Object"
  | 1 => .object "java/lang/String"
  | 2 => .object "java/lang/Throwable"
  | 3 => .array (.object "java/lang/StackTraceElement")
  | 4 => .int
  | 5 => .object "java/util/List"
  | 6 => .int
  | _ => .object "java/lang/String"
abbrev wsJx5d7770 : List Cond := u_ws RJx5d777 TJx5d777 8
theorem nmJx5d777 : ∀ a, a < 8 → ∀ b, b < 8 → a ≠ b → (TJx5d777 a).2.1 ≠ (TJx5d777 b).2.1 := by decide +kernel
theorem tyJx5d777_ok : ∀ k, k < 8 → parseFieldDescriptor (TJx5d777 k).2.2.1 = some (tyJx5d777 k) := by decide +kernel
abbrev cJx5d777_init_da8c8 : ByteArray := prog_18_method_1_code
def yJx5d777_init_da8c8 : MethodName := ⟨RJx5d777, "<init>", "()V"⟩
abbrev cJx5d777_fillInStackTrace_cddbd : ByteArray := prog_18_method_3_code
def yJx5d777_fillInStackTrace_cddbd : MethodName := ⟨RJx5d777, "fillInStackTrace", "()Ljava/lang/Throwable;"⟩
def RJ0 : String := "java/lang/String"
def TJ0 : u_T := fun k => match k with
  | 0 => ("java/lang/String", "value", "[B", true)
  | _ => ("java/lang/String", "coder", "B", true)
def tyJ0 : Nat → FieldType := fun k => match k with
  | 0 => .array .byte
  | _ => .byte
abbrev wsJ00 : List Cond := u_ws RJ0 TJ0 2
theorem nmJ0 : ∀ a, a < 2 → ∀ b, b < 2 → a ≠ b → (TJ0 a).2.1 ≠ (TJ0 b).2.1 := by decide +kernel
theorem tyJ0_ok : ∀ k, k < 2 → parseFieldDescriptor (TJ0 k).2.2.1 = some (tyJ0 k) := by decide +kernel
def RJ10 : String := "java/lang/System"
def TJ10 : u_T := fun k => match k with
  | _ => ("", "", "", false)
def tyJ10 : Nat → FieldType := fun k => match k with
  | _ => .int
abbrev wsJ100 : List Cond := u_ws RJ10 TJ10 0
theorem nmJ10 : ∀ a, a < 0 → ∀ b, b < 0 → a ≠ b → (TJ10 a).2.1 ≠ (TJ10 b).2.1 := by decide +kernel
theorem tyJ10_ok : ∀ k, k < 0 → parseFieldDescriptor (TJ10 k).2.2.1 = some (tyJ10 k) := by decide +kernel
def RJ7 : String := "java/util/Arrays"
def TJ7 : u_T := fun k => match k with
  | _ => ("", "", "", false)
def tyJ7 : Nat → FieldType := fun k => match k with
  | _ => .int
abbrev wsJ70 : List Cond := u_ws RJ7 TJ7 0
theorem nmJ7 : ∀ a, a < 0 → ∀ b, b < 0 → a ≠ b → (TJ7 a).2.1 ≠ (TJ7 b).2.1 := by decide +kernel
theorem tyJ7_ok : ∀ k, k < 0 → parseFieldDescriptor (TJ7 k).2.2.1 = some (tyJ7 k) := by decide +kernel
abbrev cJ7_copyOf_c38d5 : ByteArray := prog_24_method_124_code
def yJ7_copyOf_c38d5 : MethodName := ⟨RJ7, "copyOf", "([JI)[J"⟩
def RL : String := "TypedHallLaw"
abbrev cL_make : ByteArray := method_3_code
def yL_make : MethodName := ⟨RL, "make", "(LTypedHall;III[J)I"⟩
abbrev cL_grid : ByteArray := method_4_code
def yL_grid : MethodName := ⟨RL, "grid", "(LTypedHall;III[J)I"⟩
abbrev cL_record : ByteArray := method_5_code
def yL_record : MethodName := ⟨RL, "record", "(LTypedHall;I[J)I"⟩
abbrev cL_window : ByteArray := method_6_code
def yL_window : MethodName := ⟨RL, "window", "(LTypedHall;III[J)I"⟩
abbrev cL_copy : ByteArray := method_7_code
def yL_copy : MethodName := ⟨RL, "copy", "(LTypedHall;II[J)I"⟩
abbrev cL_lose : ByteArray := method_8_code
def yL_lose : MethodName := ⟨RL, "lose", "(LTypedHall;II[J)I"⟩
abbrev cL_resize : ByteArray := method_9_code
def yL_resize : MethodName := ⟨RL, "resize", "(LTypedHall;II[J)I"⟩
abbrev cL_size : ByteArray := method_10_code
def yL_size : MethodName := ⟨RL, "size", "(LTypedHall;I[J)I"⟩
abbrev cL_take : ByteArray := method_11_code
def yL_take : MethodName := ⟨RL, "take", "(LTypedHall;II[J)I"⟩
abbrev cL_put : ByteArray := method_12_code
def yL_put : MethodName := ⟨RL, "put", "(LTypedHall;IIJ[J)I"⟩
abbrev cL_cell : ByteArray := method_13_code
def yL_cell : MethodName := ⟨RL, "cell", "(LTypedHall;III[J)I"⟩
abbrev cL_setCell : ByteArray := method_14_code
def yL_setCell : MethodName := ⟨RL, "setCell", "(LTypedHall;IIIII)I"⟩
abbrev cL_refer : ByteArray := method_15_code
def yL_refer : MethodName := ⟨RL, "refer", "(LTypedHall;III)I"⟩
abbrev cL_fetch : ByteArray := method_16_code
def yL_fetch : MethodName := ⟨RL, "fetch", "(LTypedHall;III[J)I"⟩
abbrev cL_link : ByteArray := method_17_code
def yL_link : MethodName := ⟨RL, "link", "(LTypedHall;II)I"⟩
abbrev cL_follow : ByteArray := method_18_code
def yL_follow : MethodName := ⟨RL, "follow", "(LTypedHall;II[J)I"⟩
abbrev cL_exchange : ByteArray := method_19_code
def yL_exchange : MethodName := ⟨RL, "exchange", "(LTypedHall;IJ[J)I"⟩
abbrev cL_total : ByteArray := method_20_code
def yL_total : MethodName := ⟨RL, "total", "(LTypedHall;I[J)I"⟩
abbrev cL_combine : ByteArray := method_21_code
def yL_combine : MethodName := ⟨RL, "combine", "(LTypedHall;IIIII[J)I"⟩
abbrev cL_move : ByteArray := method_22_code
def yL_move : MethodName := ⟨RL, "move", "(LTypedHall;IIIII[J)I"⟩
abbrev cL_law : ByteArray := code
def yL_law : MethodName := ⟨RL, "law", "([I)Z"⟩
abbrev vwCl : List vw_C := [(RJ0, TJ0, 2), (RJx00060, TJx00060, 6), (RJxde1cd, TJxde1cd, 6), (RJx5d777, TJx5d777, 8), (RX0, TX0, 1), (RX2, TX2, 2), (RX3, TX3, 3), (RX4, TX4, 3), (RX5, TX5, 2), (RX6, TX6, 12)]
end
section
/-! ===== the abstract machine: what an instruction asks, over an abstract heap; no number of the machine's own stands in it ===== -/
abbrev ac_C : Type := (Nat → Int32) ⊕ ((Nat → Int64) ⊕ (Nat → Option Nat))
abbrev ac_E : Type := (Nat × List Value) ⊕ (Nat × Nat × ac_C)
abbrev ac_H : Type := Nat → Option ac_E
abbrev ac_V : Type := List (Option Value)
abbrev ac_O : Type := Option Value ⊕ Nat
abbrev ac_Q : Type := ac_O → ac_H → Prop
abbrev ac_K : Type := ac_V → List Value → ac_H → Nat → Nat → Prop
abbrev ac_P : Type := Nat → ac_K
abbrev ac_op : Type := ac_P → ac_Q → ac_K
abbrev ac_T : Type := List Value → ac_H → ac_Q → Prop
def ac_hs (h : ac_H) (a : Nat) (e : ac_E) : ac_H := fun q => if q = a then some e else h q
def ac_xn : Nat → String
  | 0 => "java/lang/IllegalArgumentException"
  | 1 => "java/lang/NullPointerException"
  | 2 => "java/lang/UnsupportedOperationException"
  | 3 => "java/lang/ArrayIndexOutOfBoundsException"
  | 4 => "java/lang/NegativeArraySizeException"
  | 5 => "java/lang/IllegalStateException"
  | _ => "java/lang/ArithmeticException"
def ac_lk : List (Nat × ac_op) → Nat → ac_op
  | [], _ => fun _ _ _ _ _ _ _ => False
  | x :: t, pc => cond (Nat.beq x.1 pc) x.2 (ac_lk t pc)
def ac_pad : Nat → (ac_V → Prop) → Prop
  | 0, K => K []
  | n + 1, K => ac_pad n (fun t => K (none :: t))
def ac_ent : List Value → Nat → (ac_V → Prop) → Prop
  | [], n, K => ac_pad n K
  | .int x :: t, n + 1, K => ac_ent t n (fun l => K (some (.int x) :: l))
  | .ref x :: t, n + 1, K => ac_ent t n (fun l => K (some (.ref x) :: l))
  | .null :: t, n + 1, K => ac_ent t n (fun l => K (some .null :: l))
  | .long x :: t, n + 2, K => ac_ent t n (fun l => K (some (.long x) :: none :: l))
  | _, _, _ => False
/-- what a method with this code asks so that all its ends are in Q -/
def ac_vc (code : List (Nat × ac_op)) (nL : Nat) : ac_T := fun args ah Q =>
  ∀ P : ac_P, (∀ (pc : Nat) (lv : ac_V) (st : List Value) (h : ac_H) (k n : Nat), ac_lk code pc P Q lv st h k n → P pc lv st h k n) → ac_ent args nL (fun lv => P 0 lv [] ah 0 0)
-- locals
def ac_ld : ac_V → Nat → (Value → Prop) → Prop
  | some v :: _, 0, K => K v
  | _ :: t, i + 1, K => ac_ld t i K
  | _, _, _ => False
def ac_c1 : Option Value → Prop → Prop
  | some (.long _), _ => False
  | some (.double _), _ => False
  | _, X => X
def ac_st1 : ac_V → Nat → Value → (ac_V → Prop) → Prop
  | _ :: t, 0, v, K => K (some v :: t)
  | a :: _ :: t, 1, v, K => ac_c1 a (K (a :: some v :: t))
  | a :: t, i + 2, v, K => ac_st1 t (i + 1) v (fun t' => K (a :: t'))
  | _, _, _, _ => False
def ac_t2 : ac_V → Value → (ac_V → Prop) → Prop
  | _ :: _ :: t, v, K => K (some v :: none :: t)
  | _, _, _ => False
def ac_st2 : ac_V → Nat → Value → (ac_V → Prop) → Prop
  | l, 0, v, K => ac_t2 l v K
  | a :: t, 1, v, K => ac_c1 a (ac_t2 t v (fun t' => K (a :: t')))
  | a :: t, i + 2, v, K => ac_st2 t (i + 1) v (fun t' => K (a :: t'))
  | _, _, _, _ => False
-- the stack
def ac_i1 : List Value → (Int32 → List Value → Prop) → Prop
  | .int x :: r, K => K x r
  | _, _ => False
def ac_l1 : List Value → (Int64 → List Value → Prop) → Prop
  | .long x :: r, K => K x r
  | _, _ => False
def ac_a1 : List Value → (Nat → List Value → Prop) → Prop
  | .ref x :: r, K => K x r
  | _, _ => False
def ac_n1 : List Value → (List Value → Prop) → (Nat → List Value → Prop) → Prop
  | .null :: r, N, _ => N r
  | .ref x :: r, _, K => K x r
  | _, _, _ => False
def ac_isI : Value → Prop → Prop
  | .int _, X => X
  | _, _ => False
def ac_isL : Value → Prop → Prop
  | .long _, X => X
  | _, _ => False
def ac_isA : Value → Prop → Prop
  | .ref _, X => X
  | .null, X => X
  | _, _ => False
-- straight instructions
def op_push (v : Value) (nx : Nat) : ac_op := fun P _ lv st h k n => P nx lv (v :: st) h k n
def op_iload (i nx : Nat) : ac_op := fun P _ lv st h k n => ac_ld lv i (fun v => ac_isI v (P nx lv (v :: st) h k n))
def op_lload (i nx : Nat) : ac_op := fun P _ lv st h k n => ac_ld lv i (fun v => ac_isL v (P nx lv (v :: st) h k n))
def op_aload (i nx : Nat) : ac_op := fun P _ lv st h k n => ac_ld lv i (fun v => ac_isA v (P nx lv (v :: st) h k n))
def op_istore (i nx : Nat) : ac_op := fun P _ lv st h k n => ac_i1 st (fun x r => ac_st1 lv i (.int x) (fun lv' => P nx lv' r h k n))
def op_lstore (i nx : Nat) : ac_op := fun P _ lv st h k n => ac_l1 st (fun x r => ac_st2 lv i (.long x) (fun lv' => P nx lv' r h k n))
def op_astore (i nx : Nat) : ac_op := fun P _ lv st h k n => ac_n1 st (fun r => ac_st1 lv i .null (fun lv' => P nx lv' r h k n)) (fun x r => ac_st1 lv i (.ref x) (fun lv' => P nx lv' r h k n))
def op_iinc (i : Nat) (d : Int32) (nx : Nat) : ac_op := fun P _ lv st h k n => ac_ld lv i (fun v => ac_i1 [v] (fun x _ => ac_st1 lv i (.int (x + d)) (fun lv' => P nx lv' st h k n)))
def op_ii (f : Int32 → Int32 → Int32) (nx : Nat) : ac_op := fun P _ lv st h k n => ac_i1 st (fun y r => ac_i1 r (fun x r => P nx lv (.int (f x y) :: r) h k n))
def op_ll (f : Int64 → Int64 → Int64) (nx : Nat) : ac_op := fun P _ lv st h k n => ac_l1 st (fun y r => ac_l1 r (fun x r => P nx lv (.long (f x y) :: r) h k n))
def op_idiv (nx : Nat) : ac_op := fun P _ lv st h k n => ac_i1 st (fun y r => ac_i1 r (fun x r => ¬ y = 0 ∧ P nx lv (.int (x / y) :: r) h k n))
def op_ldiv (nx : Nat) : ac_op := fun P _ lv st h k n => ac_l1 st (fun y r => ac_l1 r (fun x r => ¬ y = 0 ∧ P nx lv (.long (x / y) :: r) h k n))
def op_lrem (nx : Nat) : ac_op := fun P _ lv st h k n => ac_l1 st (fun y r => ac_l1 r (fun x r => ¬ y = 0 ∧ P nx lv (.long (x - x / y * y) :: r) h k n))
def op_lshl (nx : Nat) : ac_op := fun P _ lv st h k n => ac_i1 st (fun y r => ac_l1 r (fun x r => P nx lv (.long (x <<< (y.toInt64 &&& 63)) :: r) h k n))
def op_lcmp (nx : Nat) : ac_op := fun P _ lv st h k n => ac_l1 st (fun y r => ac_l1 r (fun x r => P nx lv (.int (lg_cmp x y) :: r) h k n))
def op_i (f : Int32 → Value) (nx : Nat) : ac_op := fun P _ lv st h k n => ac_i1 st (fun x r => P nx lv (f x :: r) h k n)
def op_l (f : Int64 → Value) (nx : Nat) : ac_op := fun P _ lv st h k n => ac_l1 st (fun x r => P nx lv (f x :: r) h k n)
def op_f2l (nx : Nat) : ac_op := fun P _ lv st h k n => match st with
  | .float x :: r => P nx lv (.long (FP.f2l x) :: r) h k n
  | _ => False
def op_d2l (nx : Nat) : ac_op := fun P _ lv st h k n => match st with
  | .double x :: r => P nx lv (.long (FP.d2l x) :: r) h k n
  | _ => False
def op_dup (nx : Nat) : ac_op := fun P _ lv st h k n => ac_a1 st (fun x r => P nx lv (.ref x :: .ref x :: r) h k n)
def op_pop2 (nx : Nat) : ac_op := fun P _ lv st h k n => ac_l1 st (fun _ r => P nx lv r h k n)
-- branches
def op_if (f : Int32 → Prop) (tg nx : Nat) : ac_op := fun P _ lv st h k n => ac_i1 st (fun x r => (f x → P tg lv r h k n) ∧ (¬ f x → P nx lv r h k n))
def op_icmp (f : Int32 → Int32 → Prop) (tg nx : Nat) : ac_op := fun P _ lv st h k n => ac_i1 st (fun y r => ac_i1 r (fun x r => (f x y → P tg lv r h k n) ∧ (¬ f x y → P nx lv r h k n)))
def op_goto (tg : Nat) : ac_op := fun P _ lv st h k n => P tg lv st h k n
def op_ifnull (tg nx : Nat) : ac_op := fun P _ lv st h k n => ac_n1 st (fun r => P tg lv r h k n) (fun _ r => P nx lv r h k n)
def op_ifnonnull (tg nx : Nat) : ac_op := fun P _ lv st h k n => ac_n1 st (fun r => P nx lv r h k n) (fun _ r => P tg lv r h k n)
def op_acmpne (tg nx : Nat) : ac_op := fun P _ lv st h k n => ac_n1 st (fun r => ac_n1 r (fun r => P nx lv r h k n) (fun _ r => P tg lv r h k n)) (fun y r => ac_n1 r (fun r => P tg lv r h k n) (fun x r => (¬ x = y → P tg lv r h k n) ∧ (x = y → P nx lv r h k n)))
def ac_sw (P : Nat → Prop) (x : Int32) : Nat → List Nat → Prop
  | _, [] => True
  | j, t :: ts => (x = nI j → P t) ∧ ac_sw P x (j + 1) ts
def op_switch (df : Nat) (ts : List Nat) : ac_op := fun P _ lv st h k n => ac_i1 st (fun x r => ac_sw (fun t => P t lv r h k n) x 0 ts ∧ ((x.toInt < 0 ∨ (ts.length : Int) ≤ x.toInt) → P df lv r h k n))
end
section
/-! ===== the abstract machine's rows hold on the machine ===== -/
def ac_em (A : Nat → ClassId) : ac_E → va_E
  | .inl o => .inr o
  | .inr (t, n, .inl f) => .inl (A t, n, .inl f)
  | .inr (t, n, .inr (.inl f)) => .inl (A t, n, .inr (.inl f))
  | .inr (t, n, .inr (.inr f)) => .inl (A t, n, .inr (.inr (.inr (.inr f))))
def ac_B (base : Nat) : Nat → Prop := fun q => base ≤ q
def ac_Rep (base : Nat) (D : va_G) (A : Nat → ClassId) (ah : ac_H) (H : Heap) : Prop := base ≤ H.size ∧ ∀ (a : Nat) (e : ac_E), ah a = some e → base ≤ a ∧ va_at D vwCl (a, ac_em A e) H
def ac_L (ls : Array Slot) (nL : Nat) (lv : ac_V) : Prop := ls.size = nL ∧ lv_wf ls ∧ lv.length = nL ∧ ∀ (j : Nat) (w : Value), lv[j]? = some (some w) → ls[j]? = some (.val w)
abbrev ac_tys (A : Nat → ClassId) : List (ClassId × FieldType) := [(A 0, .int), (A 1, .boolean), (A 2, .long), (A 3, .object "TypedHall$Item"), (A 4, .array .int)]
def ac_ngw (w : Cond) : Bool := match w with
  | .fieldLinkNest .. => true
  | .methodLinkNest .. => true
  | .declares _ => true
  | .castable .. => true
  | _ => false
def ac_gw : List Cond := lw_tbl.filter goodWord
def ac_ng : List Cond := lw_tbl.filter ac_ngw
def ac_nc : List (String × String) := (["java/lang/IllegalArgumentException", "java/lang/NullPointerException", "java/lang/UnsupportedOperationException", "java/lang/ArrayIndexOutOfBoundsException", "java/lang/NegativeArraySizeException", "java/lang/IllegalStateException", "java/lang/ArithmeticException"].flatMap fun a => (["java/lang/IllegalArgumentException", "java/lang/NullPointerException", "java/lang/UnsupportedOperationException", "java/lang/ArrayIndexOutOfBoundsException", "java/lang/NegativeArraySizeException", "java/lang/IllegalStateException", "java/lang/ArithmeticException"].filter (fun b => !(a == b))).map fun b => (a, b)) ++ ([RX0, RX2, RX3, RX4].flatMap fun a => ([RX0, RX2, RX3].filter (fun b => !(a == b))).map fun b => (a, b))
def ac_AOA (t : FieldType) (U : State) : Prop := (Cond.arrayOver (.array t)).before #[] U = true
theorem ac_AOA.moved {t : FieldType} {u U : State} (hvm : u.vm.Alike U.vm) (h : ac_AOA t u) : ac_AOA t U := by
  obtain ⟨comp, c, k, h1, h2, h3, h4, h5⟩ := arrayOverA_spec h
  obtain ⟨k', hk', he⟩ := hvm.2.2 _ _ h3
  have hi : (U.vm.classes.findIdx? fun (x : Class) => match x.kind with | .array component _ => component == comp | _ => false) = some c := by
    have hbq : U.vm.bare = u.vm.bare := by first | exact hvm.bare_eq | exact hvm.bare_eq.symm
    exact (va_idx_bare U.vm comp).symm.trans ((congrArg (fun v : Vm => v.classes.findIdx? fun (x : Class) => match x.kind with | .array component _ => component == comp | _ => false) hbq).trans ((va_idx_bare u.vm comp).trans h2))
  have hkind : k'.kind = .array comp (.array t) := by rw [he]; exact h4
  have f1 : U.vm.findClass (FieldType.array t).toString = some comp := by rw [hvm.findClass]; exact h1
  have f2 : U.vm.findClass ("[" ++ (FieldType.array t).toString) = some c := by rw [hvm.findClass]; exact h5
  unfold ac_AOA Cond.before Cond.holds
  simp only [Cond.value]
  rw [f1, Option.bind_some]
  refine (congrArg (fun o : Option Nat => (o.bind (fun c => (U.vm.classes[c]?).map fun (k : Class) => match k.kind with | .array _ ty => decide (ty = FieldType.array t) && decide (U.vm.findClass ("[" ++ (FieldType.array t).toString) = some c) | _ => false) == some true)) hi).trans ?_
  simp [hk', hkind, f2]
/-- what stays of the tables and of the old cells through the whole run -/
def ac_KN (base : Nat) (D : va_G) (A : Nat → ClassId) (U : State) (H : Heap) : Prop :=
  va_K D vwCl (ac_tys A) U ∧ vx_Zq Bundle.tN "UNASSIGNED_STACK" Bundle.steD (ac_B base) U H ∧ vx_Zq Bundle.tN "SUPPRESSED_SENTINEL" Bundle.listD (ac_B base) U H ∧
  (∃ zn : Nat, va_Z "TypedHall" "NO_ELEMENTS" "[I" (.ref zn) (ac_B base) U H ∧ va_X zn 0 (fun _ => 0) U H ∧ zn < base) ∧ (∀ q ∈ ac_nc, va_Nc q.1 q.2 U) ∧ (∀ w ∈ ac_ng, va_Nw w U) ∧ va_AO "TypedHall$Item" U ∧ ac_AOA .int U
abbrev ac_D : Type := String × String × ByteArray × Nat × Option FieldType × List (Nat × Nat × Nat × Nat) × Room
def ac_G (l : Launch) (p : Program) (s : State) (m : MethodId) (args : Array Value) (meth : Method) (c : Code) (M : ac_D) (base : Nat) (D : va_G) (A : Nat → ClassId) (scr : Nat → Nat → (Nat → Int32) → Prop) : Prop :=
  l.stackTraces = false ∧ p.tables.exec = Jvm.exec ∧ c.code = M.2.2.1 ∧ c.maxLocals = M.2.2.2.1 ∧ meth.sig.returnType = M.2.2.2.2.1 ∧ s.vm.findClass M.1 = some m.cls ∧ (∀ w ∈ ac_gw, w.before args s = true) ∧ meth.locks = false ∧ c.exceptionTable.toList = tableOf M.2.2.2.2.2.1 ∧ ac_KN base D A s s.heap ∧ base ≤ s.heap.size ∧ meth.name = M.2.1 ∧ ∀ (b L : Nat) (xs : Nat → Int32), scr b L xs → b < base ∧ va_X b L xs s s.heap
def ac_Qc (base : Nat) (D : va_G) (A : Nat → ClassId) (Q : ac_Q) : Array Value → State → Outcome → State → Prop := fun _ st o t => ∃ (v : Option Value) (ah : ac_H), o = .returned v ∧ Q (.inl v) ah ∧ ac_Rep base D A ah t.heap ∧ va_F (ac_B base) st t
def ac_XC (base : Nat) (D : va_G) (A : Nat → ClassId) (Q : ac_Q) : String → State → State → Prop := fun E st t => ∃ (x : Nat) (ah : ac_H), ac_xn x = E ∧ Q (.inr x) ah ∧ ac_Rep base D A ah t.heap ∧ va_F (ac_B base) st t
def ac_W (p : Program) (l : Launch) (e : Env) (s : State) (m : MethodId) (args : Array Value) (below : List Frame) (meth : Method) (c : Code) (nL : Nat) (R : Room) (base : Nat) (D : va_G) (A : Nat → ClassId) (Q : ac_Q) : ac_P := fun pc lv st ah k n =>
  ∀ (H : Heap) (locs : List Loc) (ls : Array Slot), ac_Rep base D A ah H → va_S (ac_B base) s.heap H locs → ac_L ls nL lv → W p l e R s m args below meth c H locs k n (vx_MQ below (ac_Qc base D A Q) (ac_XC base D A Q) args s R.cells R.slots (ac_B base)) (F0 m pc ls st)
def ac_So (M : ac_D) (scr : Nat → Nat → (Nat → Int32) → Prop) (pc : Nat) (op : ac_op) : Prop := ∀ (p : Program) (l : Launch) (e : Env) (s : State) (m : MethodId) (args : Array Value) (below : List Frame) (meth : Method) (c : Code) (base : Nat) (D : va_G) (A : Nat → ClassId) (Q : ac_Q),
  ac_G l p s m args meth c M base D A scr → ∀ (lv : ac_V) (st : List Value) (ah : ac_H) (k n : Nat), op (ac_W p l e s m args below meth c M.2.2.2.1 M.2.2.2.2.2.2 base D A Q) Q lv st ah k n → ac_W p l e s m args below meth c M.2.2.2.1 M.2.2.2.2.2.2 base D A Q pc lv st ah k n
theorem ac_i1v {st : List Value} {K : Int32 → List Value → Prop} (h : ac_i1 st K) : ∃ x r, st = .int x :: r ∧ K x r := by
  match st, h with
  | .int x :: r, h => exact ⟨x, r, rfl, h⟩
theorem ac_l1v {st : List Value} {K : Int64 → List Value → Prop} (h : ac_l1 st K) : ∃ x r, st = .long x :: r ∧ K x r := by
  match st, h with
  | .long x :: r, h => exact ⟨x, r, rfl, h⟩
theorem ac_a1v {st : List Value} {K : Nat → List Value → Prop} (h : ac_a1 st K) : ∃ x r, st = .ref x :: r ∧ K x r := by
  match st, h with
  | .ref x :: r, h => exact ⟨x, r, rfl, h⟩
theorem ac_n1v {st : List Value} {N : List Value → Prop} {K : Nat → List Value → Prop} (h : ac_n1 st N K) : (∃ r, st = .null :: r ∧ N r) ∨ ∃ x r, st = .ref x :: r ∧ K x r := by
  match st, h with
  | .null :: r, h => exact Or.inl ⟨r, rfl, h⟩
  | .ref x :: r, h => exact Or.inr ⟨x, r, rfl, h⟩
theorem ac_ldv : ∀ {lv : ac_V} {i : Nat} {K : Value → Prop}, ac_ld lv i K → ∃ v, lv[i]? = some (some v) ∧ K v
  | some v :: t, 0, K, h => ⟨v, rfl, h⟩
  | none :: t, 0, K, h => False.elim h
  | [], 0, K, h => False.elim h
  | [], i + 1, K, h => False.elim h
  | none :: t, i + 1, K, h => by
    obtain ⟨v, h1, h2⟩ := ac_ldv (lv := t) h
    exact ⟨v, by simpa using h1, h2⟩
  | some w :: t, i + 1, K, h => by
    obtain ⟨v, h1, h2⟩ := ac_ldv (lv := t) h
    exact ⟨v, by simpa using h1, h2⟩
theorem ac_isIv {v : Value} {X : Prop} (h : ac_isI v X) : (∃ x, v = .int x) ∧ X := by
  match v, h with
  | .int x, h => exact ⟨⟨x, rfl⟩, h⟩
theorem ac_isLv {v : Value} {X : Prop} (h : ac_isL v X) : (∃ x, v = .long x) ∧ X := by
  match v, h with
  | .long x, h => exact ⟨⟨x, rfl⟩, h⟩
theorem ac_isAv {v : Value} {X : Prop} (h : ac_isA v X) : (v = .null ∨ ∃ x, v = .ref x) ∧ X := by
  match v, h with
  | .ref x, h => exact ⟨Or.inr ⟨x, rfl⟩, h⟩
  | .null, h => exact ⟨Or.inl rfl, h⟩
theorem ac_c1v {a : Option Value} {X : Prop} (h : ac_c1 a X) : (∀ w, a = some w → ¬ w.category = 2) ∧ X := by
  match a, h with
  | none, h => exact ⟨fun w hw => (by cases hw), h⟩
  | some (.retAddr x), h => exact ⟨fun w hw => (by cases hw; simp [Value.category]), h⟩
  | some (.int x), h => exact ⟨fun w hw => by cases hw; simp [Value.category], h⟩
  | some (.float x), h => exact ⟨fun w hw => by cases hw; simp [Value.category], h⟩
  | some (.ref x), h => exact ⟨fun w hw => by cases hw; simp [Value.category], h⟩
  | some .null, h => exact ⟨fun w hw => by cases hw; simp [Value.category], h⟩
/-- what a store of one word leaves -/
def ac_s1 (lv lv' : ac_V) (i : Nat) (v : Value) : Prop := lv'.length = lv.length ∧ i < lv.length ∧ ∀ (j : Nat) (w : Value), lv'[j]? = some (some w) → (j = i ∧ w = v) ∨ (j ≠ i ∧ lv[j]? = some (some w) ∧ (j + 1 = i → ¬ w.category = 2))
theorem ac_st1v : ∀ {lv : ac_V} {i : Nat} {v : Value} {K : ac_V → Prop}, ac_st1 lv i v K → ∃ lv', ac_s1 lv lv' i v ∧ K lv'
  | a :: t, 0, v, K, h => by
    refine ⟨some v :: t, ⟨rfl, by simp, fun j w hj => ?_⟩, h⟩
    match j, hj with
    | 0, hj => exact Or.inl ⟨rfl, by simpa using hj.symm⟩
    | j + 1, hj => exact Or.inr ⟨by omega, by simpa using hj, by omega⟩
  | [], 0, v, K, h => False.elim h
  | [], 1, v, K, h => False.elim h
  | [a], 1, v, K, h => False.elim h
  | a :: b :: t, 1, v, K, h => by
    obtain ⟨h1, h2⟩ := ac_c1v h
    refine ⟨a :: some v :: t, ⟨rfl, by simp, fun j w hj => ?_⟩, h2⟩
    match j, hj with
    | 0, hj => exact Or.inr ⟨by omega, by simpa using hj, fun _ => h1 w (by simpa using hj)⟩
    | 1, hj => exact Or.inl ⟨rfl, by simpa using hj.symm⟩
    | j + 2, hj => exact Or.inr ⟨by omega, by simpa using hj, by omega⟩
  | [], i + 2, v, K, h => False.elim h
  | a :: t, i + 2, v, K, h => by
    obtain ⟨t', ⟨h1, h2, h3⟩, h4⟩ := ac_st1v (lv := t) (i := i + 1) h
    refine ⟨a :: t', ⟨by simp [h1], by simp; omega, fun j w hj => ?_⟩, h4⟩
    match j, hj with
    | 0, hj => exact Or.inr ⟨by omega, by simpa using hj, by omega⟩
    | j + 1, hj =>
      rcases h3 j w (by simpa using hj) with ⟨e1, e2⟩ | ⟨e1, e2, e3⟩
      · exact Or.inl ⟨by omega, e2⟩
      · exact Or.inr ⟨by omega, by simpa using e2, fun q => e3 (by omega)⟩
def ac_s2 (lv lv' : ac_V) (i : Nat) (v : Value) : Prop := lv'.length = lv.length ∧ i + 1 < lv.length ∧ ∀ (j : Nat) (w : Value), lv'[j]? = some (some w) → (j = i ∧ w = v) ∨ (j ≠ i ∧ j ≠ i + 1 ∧ lv[j]? = some (some w) ∧ (j + 1 = i → ¬ w.category = 2))
theorem ac_t2v {l : ac_V} {v : Value} {K : ac_V → Prop} (h : ac_t2 l v K) : ∃ a b t, l = a :: b :: t ∧ K (some v :: none :: t) := by
  match l, h with
  | a :: b :: t, h => exact ⟨a, b, t, rfl, h⟩
theorem ac_st2v : ∀ {lv : ac_V} {i : Nat} {v : Value} {K : ac_V → Prop}, ac_st2 lv i v K → ∃ lv', ac_s2 lv lv' i v ∧ K lv'
  | l, 0, v, K, h => by
    have h : ac_t2 l v K := by
      cases l <;> exact h
    obtain ⟨a, b, t, rfl, h⟩ := ac_t2v h
    refine ⟨some v :: none :: t, ⟨rfl, by simp, fun j w hj => ?_⟩, h⟩
    match j, hj with
    | 0, hj => exact Or.inl ⟨rfl, by simpa using hj.symm⟩
    | 1, hj => simp at hj
    | j + 2, hj => exact Or.inr ⟨by omega, by omega, by simpa using hj, by omega⟩
  | [], 1, v, K, h => False.elim h
  | a :: t, 1, v, K, h => by
    obtain ⟨h1, h2⟩ := ac_c1v (a := a) (X := ac_t2 t v (fun t' => K (a :: t'))) h
    obtain ⟨b, d, t, rfl, h2⟩ := ac_t2v h2
    refine ⟨a :: some v :: none :: t, ⟨rfl, by simp, fun j w hj => ?_⟩, h2⟩
    match j, hj with
    | 0, hj => exact Or.inr ⟨by omega, by omega, by simpa using hj, fun _ => h1 w (by simpa using hj)⟩
    | 1, hj => exact Or.inl ⟨rfl, by simpa using hj.symm⟩
    | 2, hj => simp at hj
    | j + 3, hj => exact Or.inr ⟨by omega, by omega, by simpa using hj, by omega⟩
  | [], i + 2, v, K, h => False.elim h
  | a :: t, i + 2, v, K, h => by
    obtain ⟨t', ⟨h1, h2, h3⟩, h4⟩ := ac_st2v (lv := t) (i := i + 1) h
    refine ⟨a :: t', ⟨by simp [h1], by simp; omega, fun j w hj => ?_⟩, h4⟩
    match j, hj with
    | 0, hj => exact Or.inr ⟨by omega, by omega, by simpa using hj, by omega⟩
    | j + 1, hj =>
      rcases h3 j w (by simpa using hj) with ⟨e1, e2⟩ | ⟨e1, e2, e3, e4⟩
      · exact Or.inl ⟨by omega, e2⟩
      · exact Or.inr ⟨by omega, by omega, by simpa using e3, fun q => e4 (by omega)⟩
/-- the known places as the kit's list -/
def ac_pr : Nat → ac_V → List (Nat × Value)
  | _, [] => []
  | i, none :: t => ac_pr (i + 1) t
  | i, some v :: t => (i, v) :: ac_pr (i + 1) t
theorem ac_pr_in : ∀ {lv : ac_V} {i j : Nat} {w : Value}, (j, w) ∈ ac_pr i lv → ∃ k, j = i + k ∧ lv[k]? = some (some w)
  | [], i, j, w, h => by simp [ac_pr] at h
  | none :: t, i, j, w, h => by
    obtain ⟨k, e1, e2⟩ := ac_pr_in (lv := t) (i := i + 1) h
    exact ⟨k + 1, by omega, by simpa using e2⟩
  | some v :: t, i, j, w, h => by
    simp only [ac_pr, List.mem_cons, Prod.mk.injEq] at h
    rcases h with ⟨rfl, rfl⟩ | h
    · exact ⟨0, rfl, rfl⟩
    · obtain ⟨k, e1, e2⟩ := ac_pr_in (lv := t) (i := i + 1) h
      exact ⟨k + 1, by omega, by simpa using e2⟩
theorem ac_pr_of : ∀ {lv : ac_V} {i k : Nat} {w : Value}, lv[k]? = some (some w) → (i + k, w) ∈ ac_pr i lv
  | [], i, k, w, h => by simp at h
  | none :: t, i, 0, w, h => by simp at h
  | none :: t, i, k + 1, w, h => by
    have := ac_pr_of (lv := t) (i := i + 1) (k := k) (w := w) (by simpa using h)
    rw [show i + 1 + k = i + (k + 1) by omega] at this
    exact this
  | some v :: t, i, 0, w, h => by
    have e : v = w := by simpa using h
    subst e
    simp [ac_pr]
  | some v :: t, i, k + 1, w, h => by
    have := ac_pr_of (lv := t) (i := i + 1) (k := k) (w := w) (by simpa using h)
    rw [show i + 1 + k = i + (k + 1) by omega] at this
    exact List.mem_cons_of_mem _ this
theorem ac_L.has {ls : Array Slot} {nL : Nat} {lv : ac_V} (h : ac_L ls nL lv) : lv_has ls nL (ac_pr 0 lv) := by
  obtain ⟨h1, h2, h3, h4⟩ := h
  refine ⟨h1, h2, fun q hq => ?_⟩
  obtain ⟨k, e1, e2⟩ := ac_pr_in (i := 0) (j := q.1) (w := q.2) hq
  rw [e1, Nat.zero_add]
  exact h4 k _ e2
theorem ac_L.st1 {ls ls' : Array Slot} {nL i : Nat} {v : Value} {lv lv' : ac_V} (h : ac_L ls nL lv) (hs : ac_s1 lv lv' i v) (hh : lv_has ls' nL ((i, v) :: (ac_pr 0 lv).filter (fun q => !(q.1 == i) && !(q.1 + 1 == i && q.2.category == 2)))) : ac_L ls' nL lv' := by
  obtain ⟨s1, s2, s3⟩ := hs
  refine ⟨hh.1, hh.2.1, s1.trans h.2.2.1, fun j w hj => ?_⟩
  rcases s3 j w hj with ⟨e1, e2⟩ | ⟨e1, e2, e3⟩
  · subst e1; subst e2
    exact hh.2.2 (j, w) List.mem_cons_self
  · refine hh.2.2 (j, w) (List.mem_cons_of_mem _ (List.mem_filter.mpr ⟨?_, ?_⟩))
    · have := ac_pr_of (i := 0) e2
      rw [Nat.zero_add] at this
      exact this
    · by_cases q : j + 1 = i
      · simp [e1, e3 q]
      · simp [e1, q]
theorem ac_L.st2 {ls ls' : Array Slot} {nL i : Nat} {v : Value} {lv lv' : ac_V} (h : ac_L ls nL lv) (hs : ac_s2 lv lv' i v) (hh : lv_has ls' nL ((i, v) :: (ac_pr 0 lv).filter (fun q => !(q.1 == i) && (!(q.1 == i + 1) && !(q.1 + 1 == i && q.2.category == 2))))) : ac_L ls' nL lv' := by
  obtain ⟨s1, s2, s3⟩ := hs
  refine ⟨hh.1, hh.2.1, s1.trans h.2.2.1, fun j w hj => ?_⟩
  rcases s3 j w hj with ⟨e1, e2⟩ | ⟨e1, e1', e2, e3⟩
  · subst e1; subst e2
    exact hh.2.2 (j, w) List.mem_cons_self
  · refine hh.2.2 (j, w) (List.mem_cons_of_mem _ (List.mem_filter.mpr ⟨?_, ?_⟩))
    · have := ac_pr_of (i := 0) e2
      rw [Nat.zero_add] at this
      exact this
    · by_cases q : j + 1 = i
      · simp [e1, e1', e3 q]
      · simp [e1, e1', q]
end
section
/-! ===== straight instructions and branches ===== -/
section ACA
variable {M : ac_D} {scr : Nat → Nat → (Nat → Int32) → Prop} {pc nx tg : Nat}
theorem so_iconst {i : Int} {v : Int32} (hd : decode M.2.2.1 pc = .ok (.iconst i, 1)) (hv : Int32.ofInt i = v) (hn : pc + 1 = nx) : ac_So M scr pc (op_push (.int v) nx) := by
  subst hn
  intro p l e s m args below meth c base D A Q G lv st ah k n h H locs ls hR hS hL
  obtain ⟨-, hx, hb, -⟩ := G
  exact lv_iconst hx hb hd hv (h H locs ls hR hS hL)
theorem so_bipush {i : Int} {v : Int32} (hd : decode M.2.2.1 pc = .ok (.bipush i, 2)) (hv : (Int8.ofInt i).toInt32 = v) (hn : pc + 2 = nx) : ac_So M scr pc (op_push (.int v) nx) := by
  subst hn
  intro p l e s m args below meth c base D A Q G lv st ah k n h H locs ls hR hS hL
  obtain ⟨-, hx, hb, -⟩ := G
  exact lv_bipush hx hb hd hv (h H locs ls hR hS hL)
theorem so_sipush {i : Int} {v : Int32} (hd : decode M.2.2.1 pc = .ok (.sipush i, 3)) (hv : (Int16.ofInt i).toInt32 = v) (hn : pc + 3 = nx) : ac_So M scr pc (op_push (.int v) nx) := by
  subst hn
  intro p l e s m args below meth c base D A Q G lv st ah k n h H locs ls hR hS hL
  obtain ⟨-, hx, hb, -⟩ := G
  exact lv_sipush hx hb hd hv (h H locs ls hR hS hL)
theorem so_lconst {i : Fin 2} {v : Int64} (hd : decode M.2.2.1 pc = .ok (.lconst i, 1)) (hv : Int64.ofNat (i : Nat) = v) (hn : pc + 1 = nx) : ac_So M scr pc (op_push (.long v) nx) := by
  subst hn
  intro p l e s m args below meth c base D A Q G lv st ah k n h H locs ls hR hS hL
  obtain ⟨-, hx, hb, -⟩ := G
  exact lv_lconst hx hb hd hv (h H locs ls hR hS hL)
theorem so_null (hd : decode M.2.2.1 pc = .ok (.aconst_null, 1)) (hn : pc + 1 = nx) : ac_So M scr pc (op_push .null nx) := by
  subst hn
  intro p l e s m args below meth c base D A Q G lv st ah k n h H locs ls hR hS hL
  obtain ⟨-, hx, hb, -⟩ := G
  exact lv_null hx hb hd (h H locs ls hR hS hL)
theorem so_ldc2 {i : Nat} {v : Int64} (hd : decode M.2.2.1 pc = .ok (.ldc2_w i, 3)) (hw : Cond.constantLong M.1 i v ∈ ac_gw) (hn : pc + 3 = nx) : ac_So M scr pc (op_push (.long v) nx) := by
  subst hn
  intro p l e s m args below meth c base D A Q G lv st ah k n h H locs ls hR hS hL
  obtain ⟨-, hx, hb, -, -, hown, hts, -⟩ := G
  exact lv_ldc2 hx hb hown (hts _ hw) hd (h H locs ls hR hS hL)
theorem so_iload {i : Nat} (hd : decode M.2.2.1 pc = .ok (.iload i, 2)) (hn : pc + 2 = nx) : ac_So M scr pc (op_iload i nx) := by
  subst hn
  intro p l e s m args below meth c base D A Q G lv st ah k n h H locs ls hR hS hL
  obtain ⟨-, hx, hb, -⟩ := G
  obtain ⟨v, h1, h2⟩ := ac_ldv h
  obtain ⟨⟨x, rfl⟩, h⟩ := ac_isIv h2
  exact lv_iload hx hb hd (hL.2.2.2 _ _ h1) (h H locs ls hR hS hL)
theorem so_iload_n {i : Fin 4} {j : Nat} (hd : decode M.2.2.1 pc = .ok (.iload_n i, 1)) (hi : (i : Nat) = j) (hn : pc + 1 = nx) : ac_So M scr pc (op_iload j nx) := by
  subst hn
  intro p l e s m args below meth c base D A Q G lv st ah k n h H locs ls hR hS hL
  obtain ⟨-, hx, hb, -⟩ := G
  obtain ⟨v, h1, h2⟩ := ac_ldv h
  obtain ⟨⟨x, rfl⟩, h⟩ := ac_isIv h2
  exact lv_iload_n hx hb hd hi (hL.2.2.2 _ _ h1) (h H locs ls hR hS hL)
theorem so_lload {i : Nat} (hd : decode M.2.2.1 pc = .ok (.lload i, 2)) (hn : pc + 2 = nx) : ac_So M scr pc (op_lload i nx) := by
  subst hn
  intro p l e s m args below meth c base D A Q G lv st ah k n h H locs ls hR hS hL
  obtain ⟨-, hx, hb, -⟩ := G
  obtain ⟨v, h1, h2⟩ := ac_ldv h
  obtain ⟨⟨x, rfl⟩, h⟩ := ac_isLv h2
  exact lv_lload hx hb hd (hL.2.2.2 _ _ h1) (h H locs ls hR hS hL)
theorem so_lload_n {i : Fin 4} {j : Nat} (hd : decode M.2.2.1 pc = .ok (.lload_n i, 1)) (hi : (i : Nat) = j) (hn : pc + 1 = nx) : ac_So M scr pc (op_lload j nx) := by
  subst hn
  intro p l e s m args below meth c base D A Q G lv st ah k n h H locs ls hR hS hL
  obtain ⟨-, hx, hb, -⟩ := G
  obtain ⟨v, h1, h2⟩ := ac_ldv h
  obtain ⟨⟨x, rfl⟩, h⟩ := ac_isLv h2
  exact lv_lload_n hx hb hd hi (hL.2.2.2 _ _ h1) (h H locs ls hR hS hL)
theorem so_aload {i : Nat} (hd : decode M.2.2.1 pc = .ok (.aload i, 2)) (hn : pc + 2 = nx) : ac_So M scr pc (op_aload i nx) := by
  subst hn
  intro p l e s m args below meth c base D A Q G lv st ah k n h H locs ls hR hS hL
  obtain ⟨-, hx, hb, -⟩ := G
  obtain ⟨v, h1, h2⟩ := ac_ldv h
  obtain ⟨h3, h⟩ := ac_isAv h2
  rcases h3 with rfl | ⟨x, rfl⟩
  · exact lv_aloadN hx hb hd (hL.2.2.2 _ _ h1) (h H locs ls hR hS hL)
  · exact lv_aload hx hb hd (hL.2.2.2 _ _ h1) (h H locs ls hR hS hL)
theorem so_aload_n {i : Fin 4} {j : Nat} (hd : decode M.2.2.1 pc = .ok (.aload_n i, 1)) (hi : (i : Nat) = j) (hn : pc + 1 = nx) : ac_So M scr pc (op_aload j nx) := by
  subst hn
  intro p l e s m args below meth c base D A Q G lv st ah k n h H locs ls hR hS hL
  obtain ⟨-, hx, hb, -⟩ := G
  obtain ⟨v, h1, h2⟩ := ac_ldv h
  obtain ⟨h3, h⟩ := ac_isAv h2
  rcases h3 with rfl | ⟨x, rfl⟩
  · exact lv_aload_nN hx hb hd hi (hL.2.2.2 _ _ h1) (h H locs ls hR hS hL)
  · exact lv_aload_n hx hb hd hi (hL.2.2.2 _ _ h1) (h H locs ls hR hS hL)
theorem so_istore {i : Nat} (hd : decode M.2.2.1 pc = .ok (.istore i, 2)) (hn : pc + 2 = nx) : ac_So M scr pc (op_istore i nx) := by
  subst hn
  intro p l e s m args below meth c base D A Q G lv st ah k n h H locs ls hR hS hL
  obtain ⟨-, hx, hb, -⟩ := G
  obtain ⟨x, r, rfl, h⟩ := ac_i1v h
  obtain ⟨lv', hs, h⟩ := ac_st1v h
  exact lv_istore hx hb hd hL.has (by rw [← hL.2.2.1]; exact hs.2.1) rfl (fun ls' hh => h H locs ls' hR hS (hL.st1 hs hh))
theorem so_istore_n {i : Fin 4} {j : Nat} (hd : decode M.2.2.1 pc = .ok (.istore_n i, 1)) (hi : (i : Nat) = j) (hn : pc + 1 = nx) : ac_So M scr pc (op_istore j nx) := by
  subst hn
  intro p l e s m args below meth c base D A Q G lv st ah k n h H locs ls hR hS hL
  obtain ⟨-, hx, hb, -⟩ := G
  obtain ⟨x, r, rfl, h⟩ := ac_i1v h
  obtain ⟨lv', hs, h⟩ := ac_st1v h
  exact lv_istore_n hx hb hd hi hL.has (by rw [← hL.2.2.1]; exact hs.2.1) rfl (fun ls' hh => h H locs ls' hR hS (hL.st1 hs hh))
theorem so_lstore {i : Nat} (hd : decode M.2.2.1 pc = .ok (.lstore i, 2)) (hn : pc + 2 = nx) : ac_So M scr pc (op_lstore i nx) := by
  subst hn
  intro p l e s m args below meth c base D A Q G lv st ah k n h H locs ls hR hS hL
  obtain ⟨-, hx, hb, -⟩ := G
  obtain ⟨x, r, rfl, h⟩ := ac_l1v h
  obtain ⟨lv', hs, h⟩ := ac_st2v h
  exact lv_lstore hx hb hd hL.has (by rw [← hL.2.2.1]; exact hs.2.1) rfl (fun ls' hh => h H locs ls' hR hS (hL.st2 hs hh))
theorem so_lstore_n {i : Fin 4} {j : Nat} (hd : decode M.2.2.1 pc = .ok (.lstore_n i, 1)) (hi : (i : Nat) = j) (hn : pc + 1 = nx) : ac_So M scr pc (op_lstore j nx) := by
  subst hn
  intro p l e s m args below meth c base D A Q G lv st ah k n h H locs ls hR hS hL
  obtain ⟨-, hx, hb, -⟩ := G
  obtain ⟨x, r, rfl, h⟩ := ac_l1v h
  obtain ⟨lv', hs, h⟩ := ac_st2v h
  exact lv_lstore_n hx hb hd hi hL.has (by rw [← hL.2.2.1]; exact hs.2.1) rfl (fun ls' hh => h H locs ls' hR hS (hL.st2 hs hh))
theorem so_astore {i : Nat} (hd : decode M.2.2.1 pc = .ok (.astore i, 2)) (hn : pc + 2 = nx) : ac_So M scr pc (op_astore i nx) := by
  subst hn
  intro p l e s m args below meth c base D A Q G lv st ah k n h H locs ls hR hS hL
  obtain ⟨-, hx, hb, -⟩ := G
  rcases ac_n1v h with ⟨r, rfl, h⟩ | ⟨x, r, rfl, h⟩
  · obtain ⟨lv', hs, h⟩ := ac_st1v h
    exact lv_astoreN hx hb hd hL.has (by rw [← hL.2.2.1]; exact hs.2.1) rfl (fun ls' hh => h H locs ls' hR hS (hL.st1 hs hh))
  · obtain ⟨lv', hs, h⟩ := ac_st1v h
    exact lv_astore hx hb hd hL.has (by rw [← hL.2.2.1]; exact hs.2.1) rfl (fun ls' hh => h H locs ls' hR hS (hL.st1 hs hh))
theorem so_astore_n {i : Fin 4} {j : Nat} (hd : decode M.2.2.1 pc = .ok (.astore_n i, 1)) (hi : (i : Nat) = j) (hn : pc + 1 = nx) : ac_So M scr pc (op_astore j nx) := by
  subst hn
  intro p l e s m args below meth c base D A Q G lv st ah k n h H locs ls hR hS hL
  obtain ⟨-, hx, hb, -⟩ := G
  rcases ac_n1v h with ⟨r, rfl, h⟩ | ⟨x, r, rfl, h⟩
  · obtain ⟨lv', hs, h⟩ := ac_st1v h
    exact lv_astore_nN hx hb hd hi hL.has (by rw [← hL.2.2.1]; exact hs.2.1) rfl (fun ls' hh => h H locs ls' hR hS (hL.st1 hs hh))
  · obtain ⟨lv', hs, h⟩ := ac_st1v h
    exact lv_astore_n hx hb hd hi hL.has (by rw [← hL.2.2.1]; exact hs.2.1) rfl (fun ls' hh => h H locs ls' hR hS (hL.st1 hs hh))
theorem so_iinc {i : Nat} {d : Int} {dv : Int32} (hd : decode M.2.2.1 pc = .ok (.iinc i d, 3)) (hv : Int32.ofInt d = dv) (hn : pc + 3 = nx) : ac_So M scr pc (op_iinc i dv nx) := by
  subst hn
  intro p l e s m args below meth c base D A Q G lv st ah k n h H locs ls hR hS hL
  obtain ⟨-, hx, hb, -⟩ := G
  obtain ⟨v, h1, h2⟩ := ac_ldv h
  obtain ⟨x, r, hr, h⟩ := ac_i1v h2
  cases hr
  obtain ⟨lv', hs, h⟩ := ac_st1v h
  have hm := ac_pr_of (i := 0) h1
  rw [Nat.zero_add] at hm
  obtain ⟨q, hq⟩ := List.getElem?_of_mem hm
  exact lv_iinc hx hb hd hL.has hq (by rw [hv]) (by rw [← hL.2.2.1]; exact hs.2.1) rfl (fun ls' hh => h H locs ls' hR hS (hL.st1 hs hh))
theorem so_iadd (hd : decode M.2.2.1 pc = .ok (.iadd, 1)) (hn : pc + 1 = nx) : ac_So M scr pc (op_ii (fun x y => x + y) nx) := by
  subst hn
  intro p l e s m args below meth c base D A Q G lv st ah k n h H locs ls hR hS hL
  obtain ⟨-, hx, hb, -⟩ := G
  obtain ⟨y, r1, rfl, g1⟩ := ac_i1v h
  obtain ⟨x, r2, rfl, g2⟩ := ac_i1v g1
  exact lv_iadd hx hb hd (g2 H locs ls hR hS hL)
theorem so_isub (hd : decode M.2.2.1 pc = .ok (.isub, 1)) (hn : pc + 1 = nx) : ac_So M scr pc (op_ii (fun x y => x - y) nx) := by
  subst hn
  intro p l e s m args below meth c base D A Q G lv st ah k n h H locs ls hR hS hL
  obtain ⟨-, hx, hb, -⟩ := G
  obtain ⟨y, r1, rfl, g1⟩ := ac_i1v h
  obtain ⟨x, r2, rfl, g2⟩ := ac_i1v g1
  exact lv_isub hx hb hd (g2 H locs ls hR hS hL)
theorem so_imul (hd : decode M.2.2.1 pc = .ok (.imul, 1)) (hn : pc + 1 = nx) : ac_So M scr pc (op_ii (fun x y => x * y) nx) := by
  subst hn
  intro p l e s m args below meth c base D A Q G lv st ah k n h H locs ls hR hS hL
  obtain ⟨-, hx, hb, -⟩ := G
  obtain ⟨y, r1, rfl, g1⟩ := ac_i1v h
  obtain ⟨x, r2, rfl, g2⟩ := ac_i1v g1
  exact lv_imul hx hb hd (g2 H locs ls hR hS hL)
theorem so_iand (hd : decode M.2.2.1 pc = .ok (.iand, 1)) (hn : pc + 1 = nx) : ac_So M scr pc (op_ii (fun x y => x &&& y) nx) := by
  subst hn
  intro p l e s m args below meth c base D A Q G lv st ah k n h H locs ls hR hS hL
  obtain ⟨-, hx, hb, -⟩ := G
  obtain ⟨y, r1, rfl, g1⟩ := ac_i1v h
  obtain ⟨x, r2, rfl, g2⟩ := ac_i1v g1
  exact lv_iand hx hb hd (g2 H locs ls hR hS hL)
theorem so_ladd (hd : decode M.2.2.1 pc = .ok (.ladd, 1)) (hn : pc + 1 = nx) : ac_So M scr pc (op_ll (fun x y => x + y) nx) := by
  subst hn
  intro p l e s m args below meth c base D A Q G lv st ah k n h H locs ls hR hS hL
  obtain ⟨-, hx, hb, -⟩ := G
  obtain ⟨y, r1, rfl, g1⟩ := ac_l1v h
  obtain ⟨x, r2, rfl, g2⟩ := ac_l1v g1
  exact lv_ladd hx hb hd (g2 H locs ls hR hS hL)
theorem so_lsub (hd : decode M.2.2.1 pc = .ok (.lsub, 1)) (hn : pc + 1 = nx) : ac_So M scr pc (op_ll (fun x y => x - y) nx) := by
  subst hn
  intro p l e s m args below meth c base D A Q G lv st ah k n h H locs ls hR hS hL
  obtain ⟨-, hx, hb, -⟩ := G
  obtain ⟨y, r1, rfl, g1⟩ := ac_l1v h
  obtain ⟨x, r2, rfl, g2⟩ := ac_l1v g1
  exact lv_lsub hx hb hd (g2 H locs ls hR hS hL)
theorem so_lmul (hd : decode M.2.2.1 pc = .ok (.lmul, 1)) (hn : pc + 1 = nx) : ac_So M scr pc (op_ll (fun x y => x * y) nx) := by
  subst hn
  intro p l e s m args below meth c base D A Q G lv st ah k n h H locs ls hR hS hL
  obtain ⟨-, hx, hb, -⟩ := G
  obtain ⟨y, r1, rfl, g1⟩ := ac_l1v h
  obtain ⟨x, r2, rfl, g2⟩ := ac_l1v g1
  exact lv_lmul hx hb hd (g2 H locs ls hR hS hL)
theorem so_land (hd : decode M.2.2.1 pc = .ok (.land, 1)) (hn : pc + 1 = nx) : ac_So M scr pc (op_ll (fun x y => x &&& y) nx) := by
  subst hn
  intro p l e s m args below meth c base D A Q G lv st ah k n h H locs ls hR hS hL
  obtain ⟨-, hx, hb, -⟩ := G
  obtain ⟨y, r1, rfl, g1⟩ := ac_l1v h
  obtain ⟨x, r2, rfl, g2⟩ := ac_l1v g1
  exact lv_land hx hb hd (g2 H locs ls hR hS hL)
theorem so_lor (hd : decode M.2.2.1 pc = .ok (.lor, 1)) (hn : pc + 1 = nx) : ac_So M scr pc (op_ll (fun x y => x ||| y) nx) := by
  subst hn
  intro p l e s m args below meth c base D A Q G lv st ah k n h H locs ls hR hS hL
  obtain ⟨-, hx, hb, -⟩ := G
  obtain ⟨y, r1, rfl, g1⟩ := ac_l1v h
  obtain ⟨x, r2, rfl, g2⟩ := ac_l1v g1
  exact lv_lor hx hb hd (g2 H locs ls hR hS hL)
theorem so_idiv (hd : decode M.2.2.1 pc = .ok (.idiv, 1)) (hn : pc + 1 = nx) : ac_So M scr pc (op_idiv nx) := by
  subst hn
  intro p l e s m args below meth c base D A Q G lv st ah k n h H locs ls hR hS hL
  obtain ⟨-, hx, hb, -⟩ := G
  obtain ⟨y, r1, rfl, g1⟩ := ac_i1v h
  obtain ⟨x, r2, rfl, h0, g2⟩ := ac_i1v g1
  exact lv_idiv hx hb hd h0 (g2 H locs ls hR hS hL)
theorem so_ldiv (hd : decode M.2.2.1 pc = .ok (.ldiv, 1)) (hn : pc + 1 = nx) : ac_So M scr pc (op_ldiv nx) := by
  subst hn
  intro p l e s m args below meth c base D A Q G lv st ah k n h H locs ls hR hS hL
  obtain ⟨-, hx, hb, -⟩ := G
  obtain ⟨y, r1, rfl, g1⟩ := ac_l1v h
  obtain ⟨x, r2, rfl, h0, g2⟩ := ac_l1v g1
  exact lv_ldiv hx hb hd h0 (g2 H locs ls hR hS hL)
theorem so_lrem (hd : decode M.2.2.1 pc = .ok (.lrem, 1)) (hn : pc + 1 = nx) : ac_So M scr pc (op_lrem nx) := by
  subst hn
  intro p l e s m args below meth c base D A Q G lv st ah k n h H locs ls hR hS hL
  obtain ⟨-, hx, hb, -⟩ := G
  obtain ⟨y, r1, rfl, g1⟩ := ac_l1v h
  obtain ⟨x, r2, rfl, h0, g2⟩ := ac_l1v g1
  exact lv_lrem hx hb hd h0 (g2 H locs ls hR hS hL)
theorem so_lshl (hd : decode M.2.2.1 pc = .ok (.lshl, 1)) (hn : pc + 1 = nx) : ac_So M scr pc (op_lshl nx) := by
  subst hn
  intro p l e s m args below meth c base D A Q G lv st ah k n h H locs ls hR hS hL
  obtain ⟨-, hx, hb, -⟩ := G
  obtain ⟨y, r1, rfl, g1⟩ := ac_i1v h
  obtain ⟨x, r2, rfl, g2⟩ := ac_l1v g1
  exact lv_lshl hx hb hd rfl (g2 H locs ls hR hS hL)
theorem so_lcmp (hd : decode M.2.2.1 pc = .ok (.lcmp, 1)) (hn : pc + 1 = nx) : ac_So M scr pc (op_lcmp nx) := by
  subst hn
  intro p l e s m args below meth c base D A Q G lv st ah k n h H locs ls hR hS hL
  obtain ⟨-, hx, hb, -⟩ := G
  obtain ⟨y, r1, rfl, g1⟩ := ac_l1v h
  obtain ⟨x, r2, rfl, g2⟩ := ac_l1v g1
  exact W.lcmp hx hb hd (g2 H locs ls hR hS hL)
theorem so_i2l (hd : decode M.2.2.1 pc = .ok (.i2l, 1)) (hn : pc + 1 = nx) : ac_So M scr pc (op_i (fun x => .long x.toInt64) nx) := by
  subst hn
  intro p l e s m args below meth c base D A Q G lv st ah k n h H locs ls hR hS hL
  obtain ⟨-, hx, hb, -⟩ := G
  obtain ⟨x, r, rfl, h⟩ := ac_i1v h
  exact lv_i2l hx hb hd rfl (h H locs ls hR hS hL)
theorem so_i2b (hd : decode M.2.2.1 pc = .ok (.i2b, 1)) (hn : pc + 1 = nx) : ac_So M scr pc (op_i (fun x => .int x.toInt8.toInt32) nx) := by
  subst hn
  intro p l e s m args below meth c base D A Q G lv st ah k n h H locs ls hR hS hL
  obtain ⟨-, hx, hb, -⟩ := G
  obtain ⟨x, r, rfl, h⟩ := ac_i1v h
  exact lv_i2b hx hb hd rfl (h H locs ls hR hS hL)
theorem so_i2s (hd : decode M.2.2.1 pc = .ok (.i2s, 1)) (hn : pc + 1 = nx) : ac_So M scr pc (op_i (fun x => .int x.toInt16.toInt32) nx) := by
  subst hn
  intro p l e s m args below meth c base D A Q G lv st ah k n h H locs ls hR hS hL
  obtain ⟨-, hx, hb, -⟩ := G
  obtain ⟨x, r, rfl, h⟩ := ac_i1v h
  exact lv_i2s hx hb hd rfl (h H locs ls hR hS hL)
theorem so_i2c (hd : decode M.2.2.1 pc = .ok (.i2c, 1)) (hn : pc + 1 = nx) : ac_So M scr pc (op_i (fun x => .int (x.toUInt32 % 65536).toInt32) nx) := by
  subst hn
  intro p l e s m args below meth c base D A Q G lv st ah k n h H locs ls hR hS hL
  obtain ⟨-, hx, hb, -⟩ := G
  obtain ⟨x, r, rfl, h⟩ := ac_i1v h
  exact lv_i2c hx hb hd rfl (h H locs ls hR hS hL)
theorem so_l2i (hd : decode M.2.2.1 pc = .ok (.l2i, 1)) (hn : pc + 1 = nx) : ac_So M scr pc (op_l (fun x => .int x.toInt32) nx) := by
  subst hn
  intro p l e s m args below meth c base D A Q G lv st ah k n h H locs ls hR hS hL
  obtain ⟨-, hx, hb, -⟩ := G
  obtain ⟨x, r, rfl, h⟩ := ac_l1v h
  exact lv_l2i hx hb hd rfl (h H locs ls hR hS hL)
theorem so_l2f (hd : decode M.2.2.1 pc = .ok (.l2f, 1)) (hn : pc + 1 = nx) : ac_So M scr pc (op_l (fun x => .float (FP.l2f x)) nx) := by
  subst hn
  intro p l e s m args below meth c base D A Q G lv st ah k n h H locs ls hR hS hL
  obtain ⟨-, hx, hb, -⟩ := G
  obtain ⟨x, r, rfl, h⟩ := ac_l1v h
  exact lv_l2f hx hb hd (h H locs ls hR hS hL)
theorem so_l2d (hd : decode M.2.2.1 pc = .ok (.l2d, 1)) (hn : pc + 1 = nx) : ac_So M scr pc (op_l (fun x => .double (FP.l2d x)) nx) := by
  subst hn
  intro p l e s m args below meth c base D A Q G lv st ah k n h H locs ls hR hS hL
  obtain ⟨-, hx, hb, -⟩ := G
  obtain ⟨x, r, rfl, h⟩ := ac_l1v h
  exact lv_l2d hx hb hd (h H locs ls hR hS hL)
theorem so_f2l (hd : decode M.2.2.1 pc = .ok (.f2l, 1)) (hn : pc + 1 = nx) : ac_So M scr pc (op_f2l nx) := by
  subst hn
  intro p l e s m args below meth c base D A Q G lv st ah k n h H locs ls hR hS hL
  obtain ⟨-, hx, hb, -⟩ := G
  match st, h with
  | .float x :: r, h => exact lv_f2l hx hb hd (h H locs ls hR hS hL)
theorem so_d2l (hd : decode M.2.2.1 pc = .ok (.d2l, 1)) (hn : pc + 1 = nx) : ac_So M scr pc (op_d2l nx) := by
  subst hn
  intro p l e s m args below meth c base D A Q G lv st ah k n h H locs ls hR hS hL
  obtain ⟨-, hx, hb, -⟩ := G
  match st, h with
  | .double x :: r, h => exact lv_d2l hx hb hd (h H locs ls hR hS hL)
theorem so_dup (hd : decode M.2.2.1 pc = .ok (.dup, 1)) (hn : pc + 1 = nx) : ac_So M scr pc (op_dup nx) := by
  subst hn
  intro p l e s m args below meth c base D A Q G lv st ah k n h H locs ls hR hS hL
  obtain ⟨-, hx, hb, -⟩ := G
  obtain ⟨x, r, rfl, h⟩ := ac_a1v h
  exact lv_dup hx hb hd rfl (h H locs ls hR hS hL)
theorem so_pop2 (hd : decode M.2.2.1 pc = .ok (.pop2, 1)) (hn : pc + 1 = nx) : ac_So M scr pc (op_pop2 nx) := by
  subst hn
  intro p l e s m args below meth c base D A Q G lv st ah k n h H locs ls hR hS hL
  obtain ⟨-, hx, hb, -⟩ := G
  obtain ⟨x, r, rfl, h⟩ := ac_l1v h
  exact lv_pop2_2 hx hb hd rfl (h H locs ls hR hS hL)
theorem so_if_eq {off : Int} (hd : decode M.2.2.1 pc = .ok (.ifCond .eq off, 3)) (ht : (pc : Int) + off = (tg : Int)) (hn : pc + 3 = nx) : ac_So M scr pc (op_if (fun x => x = 0) tg nx) := by
  subst hn
  intro p l e s m args below meth c base D A Q G lv st ah k n h H locs ls hR hS hL
  obtain ⟨-, hx, hb, -⟩ := G
  obtain ⟨x, r, rfl, h⟩ := ac_i1v h
  exact lv_if_eq hx hb hd ht (fun q => h.1 q H locs ls hR hS hL) (fun q => h.2 q H locs ls hR hS hL)
theorem so_if_ne {off : Int} (hd : decode M.2.2.1 pc = .ok (.ifCond .ne off, 3)) (ht : (pc : Int) + off = (tg : Int)) (hn : pc + 3 = nx) : ac_So M scr pc (op_if (fun x => ¬ x = 0) tg nx) := by
  subst hn
  intro p l e s m args below meth c base D A Q G lv st ah k n h H locs ls hR hS hL
  obtain ⟨-, hx, hb, -⟩ := G
  obtain ⟨x, r, rfl, h⟩ := ac_i1v h
  exact lv_if_ne hx hb hd ht (fun q => h.1 q H locs ls hR hS hL) (fun q => h.2 (fun z => z q) H locs ls hR hS hL)
theorem so_if_lt {off : Int} (hd : decode M.2.2.1 pc = .ok (.ifCond .lt off, 3)) (ht : (pc : Int) + off = (tg : Int)) (hn : pc + 3 = nx) : ac_So M scr pc (op_if (fun x => x < 0) tg nx) := by
  subst hn
  intro p l e s m args below meth c base D A Q G lv st ah k n h H locs ls hR hS hL
  obtain ⟨-, hx, hb, -⟩ := G
  obtain ⟨x, r, rfl, h⟩ := ac_i1v h
  exact lv_if_lt hx hb hd ht (fun q => h.1 q H locs ls hR hS hL) (fun q => h.2 q H locs ls hR hS hL)
theorem so_if_ge {off : Int} (hd : decode M.2.2.1 pc = .ok (.ifCond .ge off, 3)) (ht : (pc : Int) + off = (tg : Int)) (hn : pc + 3 = nx) : ac_So M scr pc (op_if (fun x => 0 ≤ x) tg nx) := by
  subst hn
  intro p l e s m args below meth c base D A Q G lv st ah k n h H locs ls hR hS hL
  obtain ⟨-, hx, hb, -⟩ := G
  obtain ⟨x, r, rfl, h⟩ := ac_i1v h
  exact lv_if_ge hx hb hd ht (fun q => h.1 q H locs ls hR hS hL) (fun q => h.2 q H locs ls hR hS hL)
theorem so_if_gt {off : Int} (hd : decode M.2.2.1 pc = .ok (.ifCond .gt off, 3)) (ht : (pc : Int) + off = (tg : Int)) (hn : pc + 3 = nx) : ac_So M scr pc (op_if (fun x => 0 < x) tg nx) := by
  subst hn
  intro p l e s m args below meth c base D A Q G lv st ah k n h H locs ls hR hS hL
  obtain ⟨-, hx, hb, -⟩ := G
  obtain ⟨x, r, rfl, h⟩ := ac_i1v h
  exact lv_if_gt hx hb hd ht (fun q => h.1 q H locs ls hR hS hL) (fun q => h.2 q H locs ls hR hS hL)
theorem so_if_le {off : Int} (hd : decode M.2.2.1 pc = .ok (.ifCond .le off, 3)) (ht : (pc : Int) + off = (tg : Int)) (hn : pc + 3 = nx) : ac_So M scr pc (op_if (fun x => x ≤ 0) tg nx) := by
  subst hn
  intro p l e s m args below meth c base D A Q G lv st ah k n h H locs ls hR hS hL
  obtain ⟨-, hx, hb, -⟩ := G
  obtain ⟨x, r, rfl, h⟩ := ac_i1v h
  exact lv_if_le hx hb hd ht (fun q => h.1 q H locs ls hR hS hL) (fun q => h.2 q H locs ls hR hS hL)
theorem so_icmp_eq {off : Int} (hd : decode M.2.2.1 pc = .ok (.if_icmp .eq off, 3)) (ht : (pc : Int) + off = (tg : Int)) (hn : pc + 3 = nx) : ac_So M scr pc (op_icmp (fun x y => x = y) tg nx) := by
  subst hn
  intro p l e s m args below meth c base D A Q G lv st ah k n h H locs ls hR hS hL
  obtain ⟨-, hx, hb, -⟩ := G
  obtain ⟨y, r1, rfl, g1⟩ := ac_i1v h
  obtain ⟨x, r2, rfl, g2⟩ := ac_i1v g1
  exact lv_icmp_eq hx hb hd ht (fun q => g2.1 q H locs ls hR hS hL) (fun q => g2.2 q H locs ls hR hS hL)
theorem so_icmp_ne {off : Int} (hd : decode M.2.2.1 pc = .ok (.if_icmp .ne off, 3)) (ht : (pc : Int) + off = (tg : Int)) (hn : pc + 3 = nx) : ac_So M scr pc (op_icmp (fun x y => ¬ x = y) tg nx) := by
  subst hn
  intro p l e s m args below meth c base D A Q G lv st ah k n h H locs ls hR hS hL
  obtain ⟨-, hx, hb, -⟩ := G
  obtain ⟨y, r1, rfl, g1⟩ := ac_i1v h
  obtain ⟨x, r2, rfl, g2⟩ := ac_i1v g1
  exact lv_icmp_ne hx hb hd ht (fun q => g2.1 q H locs ls hR hS hL) (fun q => g2.2 (fun z => z q) H locs ls hR hS hL)
theorem so_icmp_lt {off : Int} (hd : decode M.2.2.1 pc = .ok (.if_icmp .lt off, 3)) (ht : (pc : Int) + off = (tg : Int)) (hn : pc + 3 = nx) : ac_So M scr pc (op_icmp (fun x y => x < y) tg nx) := by
  subst hn
  intro p l e s m args below meth c base D A Q G lv st ah k n h H locs ls hR hS hL
  obtain ⟨-, hx, hb, -⟩ := G
  obtain ⟨y, r1, rfl, g1⟩ := ac_i1v h
  obtain ⟨x, r2, rfl, g2⟩ := ac_i1v g1
  exact lv_icmp_lt hx hb hd ht (fun q => g2.1 q H locs ls hR hS hL) (fun q => g2.2 q H locs ls hR hS hL)
theorem so_icmp_ge {off : Int} (hd : decode M.2.2.1 pc = .ok (.if_icmp .ge off, 3)) (ht : (pc : Int) + off = (tg : Int)) (hn : pc + 3 = nx) : ac_So M scr pc (op_icmp (fun x y => y ≤ x) tg nx) := by
  subst hn
  intro p l e s m args below meth c base D A Q G lv st ah k n h H locs ls hR hS hL
  obtain ⟨-, hx, hb, -⟩ := G
  obtain ⟨y, r1, rfl, g1⟩ := ac_i1v h
  obtain ⟨x, r2, rfl, g2⟩ := ac_i1v g1
  exact lv_icmp_ge hx hb hd ht (fun q => g2.1 q H locs ls hR hS hL) (fun q => g2.2 q H locs ls hR hS hL)
theorem so_icmp_gt {off : Int} (hd : decode M.2.2.1 pc = .ok (.if_icmp .gt off, 3)) (ht : (pc : Int) + off = (tg : Int)) (hn : pc + 3 = nx) : ac_So M scr pc (op_icmp (fun x y => y < x) tg nx) := by
  subst hn
  intro p l e s m args below meth c base D A Q G lv st ah k n h H locs ls hR hS hL
  obtain ⟨-, hx, hb, -⟩ := G
  obtain ⟨y, r1, rfl, g1⟩ := ac_i1v h
  obtain ⟨x, r2, rfl, g2⟩ := ac_i1v g1
  exact lv_icmp_gt hx hb hd ht (fun q => g2.1 q H locs ls hR hS hL) (fun q => g2.2 q H locs ls hR hS hL)
theorem so_icmp_le {off : Int} (hd : decode M.2.2.1 pc = .ok (.if_icmp .le off, 3)) (ht : (pc : Int) + off = (tg : Int)) (hn : pc + 3 = nx) : ac_So M scr pc (op_icmp (fun x y => x ≤ y) tg nx) := by
  subst hn
  intro p l e s m args below meth c base D A Q G lv st ah k n h H locs ls hR hS hL
  obtain ⟨-, hx, hb, -⟩ := G
  obtain ⟨y, r1, rfl, g1⟩ := ac_i1v h
  obtain ⟨x, r2, rfl, g2⟩ := ac_i1v g1
  exact lv_icmp_le hx hb hd ht (fun q => g2.1 q H locs ls hR hS hL) (fun q => g2.2 q H locs ls hR hS hL)
theorem so_goto {off : Int} (hd : decode M.2.2.1 pc = .ok (.goto off, 3)) (ht : (pc : Int) + off = (tg : Int)) : ac_So M scr pc (op_goto tg) := by
  intro p l e s m args below meth c base D A Q G lv st ah k n h H locs ls hR hS hL
  obtain ⟨-, hx, hb, -⟩ := G
  exact lv_goto hx hb hd ht (h H locs ls hR hS hL)
theorem so_ifnull {off : Int} (hd : decode M.2.2.1 pc = .ok (.ifnull off, 3)) (ht : (pc : Int) + off = (tg : Int)) (hn : pc + 3 = nx) : ac_So M scr pc (op_ifnull tg nx) := by
  subst hn
  intro p l e s m args below meth c base D A Q G lv st ah k n h H locs ls hR hS hL
  obtain ⟨-, hx, hb, -⟩ := G
  rcases ac_n1v h with ⟨r, rfl, h⟩ | ⟨x, r, rfl, h⟩
  · exact lv_ifnullN hx hb hd ht (h H locs ls hR hS hL)
  · exact lv_ifnull hx hb hd (h H locs ls hR hS hL)
theorem so_ifnonnull {off : Int} (hd : decode M.2.2.1 pc = .ok (.ifnonnull off, 3)) (ht : (pc : Int) + off = (tg : Int)) (hn : pc + 3 = nx) : ac_So M scr pc (op_ifnonnull tg nx) := by
  subst hn
  intro p l e s m args below meth c base D A Q G lv st ah k n h H locs ls hR hS hL
  obtain ⟨-, hx, hb, -⟩ := G
  rcases ac_n1v h with ⟨r, rfl, h⟩ | ⟨x, r, rfl, h⟩
  · exact lv_ifnonnullN hx hb hd (h H locs ls hR hS hL)
  · exact lv_ifnonnull hx hb hd ht (h H locs ls hR hS hL)
theorem so_acmpne {off : Int} (hd : decode M.2.2.1 pc = .ok (.if_acmp .ne off, 3)) (ht : (pc : Int) + off = (tg : Int)) (hn : pc + 3 = nx) : ac_So M scr pc (op_acmpne tg nx) := by
  subst hn
  intro p l e s m args below meth c base D A Q G lv st ah k n h H locs ls hR hS hL
  obtain ⟨-, hx, hb, -⟩ := G
  rcases ac_n1v h with ⟨r, rfl, g⟩ | ⟨y, r, rfl, g⟩
  · rcases ac_n1v g with ⟨r, rfl, h⟩ | ⟨x, r, rfl, h⟩
    · exact lv_acmp_ne (rx := none) (ry := none) hx hb hd ht (fun q => absurd rfl q) (fun _ => h H locs ls hR hS hL)
    · exact lv_acmp_ne (rx := some x) (ry := none) hx hb hd ht (fun _ => h H locs ls hR hS hL) (fun q => by cases q)
  · rcases ac_n1v g with ⟨r, rfl, h⟩ | ⟨x, r, rfl, h⟩
    · exact lv_acmp_ne (rx := none) (ry := some y) hx hb hd ht (fun _ => h H locs ls hR hS hL) (fun q => by cases q)
    · exact lv_acmp_ne (rx := some x) (ry := some y) hx hb hd ht (fun q => h.1 (fun z => q (by rw [z])) H locs ls hR hS hL) (fun q => h.2 (Option.some.inj q) H locs ls hR hS hL)
theorem ac_swv {P : Nat → Prop} {x : Int32} : ∀ {ts : List Nat} {j i t : Nat}, ac_sw P x j ts → ts[i]? = some t → x = nI (j + i) → P t
  | [], j, i, t, _, ht, _ => by simp at ht
  | a :: ts, j, 0, t, h, ht, hx => by
    have e : a = t := by simpa using ht
    subst e
    exact h.1 (by simpa using hx)
  | a :: ts, j, i + 1, t, h, ht, hx => ac_swv (ts := ts) (j := j + 1) (i := i) h.2 (by simpa using ht) (by rw [hx]; congr 1; omega)
theorem so_switch {dflt hi : Int} {offs : Array Int} {len df : Nat} {ts : List Nat} (hd : decode M.2.2.1 pc = .ok (.tableswitch dflt 0 hi offs, len)) (h1 : hi = (ts.length : Int) - 1) (h2 : offs.toList = ts.map (fun t : Nat => (t : Int) - (pc : Int))) (h3 : (pc : Int) + dflt = (df : Int)) (h4 : ts.length < 2 ^ 31) : ac_So M scr pc (op_switch df ts) := by
  intro p l e s m args below meth c base D A Q G lv st ah k n h H locs ls hR hS hL
  obtain ⟨-, hx, hb, -⟩ := G
  obtain ⟨x, r, rfl, g⟩ := ac_i1v h
  by_cases hlo : x.toInt < 0
  · exact lv_tableOut hx hb hd (Or.inl hlo) h3 (g.2 (Or.inl hlo) H locs ls hR hS hL)
  · by_cases hhi : hi < x.toInt
    · exact lv_tableOut hx hb hd (Or.inr hhi) h3 (g.2 (Or.inr (by omega)) H locs ls hR hS hL)
    · obtain ⟨j, hj, rfl⟩ := nI_of (x := x) (by rw [Int32.lt_iff_toInt_lt]; exact hlo)
      rw [nI_toInt hj] at hhi
      have hjl : j < ts.length := by omega
      have hgo : offs[((nI j).toInt - 0).toNat]? = some ((ts[j] : Int) - (pc : Int)) := by
        rw [nI_toInt hj, ← Array.getElem?_toList, h2]
        simp [hjl]
      exact lv_tableIn (tgt := ts[j]) hx hb hd hlo (by rw [nI_toInt hj]; exact hhi) hgo (by omega) (ac_swv g.1 (i := j) (by simp [hjl]) (by rw [Nat.zero_add]) H locs ls hR hS hL)
end ACA
end
section
/-! ===== returns, the heap, calls, throws: the abstract side ===== -/
def op_ireturn (R : Room) : ac_op := fun _ Q _ st h k n => ac_i1 st (fun x r => r = [] ∧ Q (.inl (some (.int x))) h ∧ k ≤ R.cells ∧ n ≤ R.slots)
def op_zreturn (R : Room) : ac_op := fun _ Q _ st h k n => ac_i1 st (fun x r => r = [] ∧ (x = 0 ∨ x = 1) ∧ Q (.inl (some (.int x))) h ∧ k ≤ R.cells ∧ n ≤ R.slots)
def op_lreturn (R : Room) : ac_op := fun _ Q _ st h k n => ac_l1 st (fun x r => r = [] ∧ Q (.inl (some (.long x))) h ∧ k ≤ R.cells ∧ n ≤ R.slots)
def op_areturn (R : Room) : ac_op := fun _ Q _ st h k n => ac_n1 st (fun r => r = [] ∧ Q (.inl (some .null)) h ∧ k ≤ R.cells ∧ n ≤ R.slots) (fun x r => r = [] ∧ Q (.inl (some (.ref x))) h ∧ k ≤ R.cells ∧ n ≤ R.slots)
def op_return (R : Room) : ac_op := fun _ Q _ st h k n => st = [] ∧ Q (.inl none) h ∧ k ≤ R.cells ∧ n ≤ R.slots
/-- new E(); dup; its constructor; athrow -/
def op_throw (R : Room) (x : Nat) : ac_op := fun _ Q _ st h k n => Q (.inr x) h ∧ k + 1 ≤ R.cells ∧ n + 6 ≤ R.slots ∧ st = []
/-- the length of null -/
def op_npe (R : Room) : ac_op := fun _ Q _ st h k n => st = [.null] ∧ Q (.inr 1) h ∧ k + 1 ≤ R.cells ∧ n + 8 ≤ R.slots
/-- an element of the empty row: static, index, load -/
def op_oob (R : Room) : ac_op := fun _ Q lv st h k n => ac_ld lv 0 (fun v => ac_isI v (st = [] ∧ Q (.inr 3) h ∧ k + 3 ≤ R.cells ∧ n + 222 ≤ R.slots))
/-- a new row of a negative length -/
def op_nas (R : Room) : ac_op := fun _ Q _ st h k n => ac_i1 st (fun x r => r = [] ∧ x < 0 ∧ Q (.inr 4) h ∧ k + 3 ≤ R.cells ∧ n + 222 ≤ R.slots)
/-- which kind of value a field of a class holds: 0 int, 1 long, 2 reference -/
def ac_fk : Nat → Nat → Nat
  | 4, 0 => 2
  | 5, 0 => 1
  | 5, 1 => 2
  | 6, 0 => 0
  | 6, 1 => 2
  | 6, 2 => 2
  | 7, 0 => 2
  | 7, 1 => 0
  | 7, 2 => 0
  | 8, 0 => 2
  | 8, 1 => 0
  | 9, 8 => 0
  | 9, 9 => 0
  | 9, 10 => 0
  | 9, 11 => 0
  | 9, 0 => 2
  | 9, 1 => 2
  | 9, 2 => 2
  | 9, 3 => 2
  | 9, 4 => 2
  | 9, 5 => 2
  | 9, 6 => 2
  | 9, 7 => 2
  | _, _ => 3
def ac_kv : Nat → Value → Prop → Prop
  | 0, .int _, X => X
  | 1, .long _, X => X
  | 2, .ref _, X => X
  | 2, .null, X => X
  | _, _, _ => False
def op_get (ci f nx : Nat) : ac_op := fun P _ lv st h k n => ac_a1 st (fun a r => ∃ (fs : List Value) (v : Value), h a = some (.inl (ci, fs)) ∧ fs[f]? = some v ∧ P nx lv (v :: r) h k n)
def op_put (ci f nx : Nat) : ac_op := fun P _ lv st h k n => match st with
  | v :: st => ac_a1 st (fun a r => ∃ fs : List Value, h a = some (.inl (ci, fs)) ∧ f < fs.length ∧ ac_kv (ac_fk ci f) v (P nx lv r (ac_hs h a (.inl (ci, fs.set f v))) k n))
  | _ => False
def op_iald (nx : Nat) : ac_op := fun P _ lv st h k n => ac_i1 st (fun i r => ac_a1 r (fun a r => ∃ (z : Nat) (f : Nat → Int32), h a = some (.inr (0, z, .inl f)) ∧ vp_in i z ∧ P nx lv (.int (f i.toNatClampNeg) :: r) h k n))
def op_zald (nx : Nat) : ac_op := fun P _ lv st h k n => ac_i1 st (fun i r => ac_a1 r (fun a r => ∃ (z : Nat) (f : Nat → Int32), h a = some (.inr (1, z, .inl f)) ∧ vp_in i z ∧ P nx lv (.int (f i.toNatClampNeg) :: r) h k n))
def op_lald (nx : Nat) : ac_op := fun P _ lv st h k n => ac_i1 st (fun i r => ac_a1 r (fun a r => ∃ (z : Nat) (f : Nat → Int64), h a = some (.inr (2, z, .inr (.inl f))) ∧ vp_in i z ∧ P nx lv (.long (f i.toNatClampNeg) :: r) h k n))
/-- t: 3 rows of items, 4 rows of rows -/
def op_aald (t nx : Nat) : ac_op := fun P _ lv st h k n => ac_i1 st (fun i r => ac_a1 r (fun a r => ∃ (z : Nat) (f : Nat → Option Nat), h a = some (.inr (t, z, .inr (.inr f))) ∧ vp_in i z ∧ (f i.toNatClampNeg = none → P nx lv (.null :: r) h k n) ∧ ∀ q, f i.toNatClampNeg = some q → P nx lv (.ref q :: r) h k n))
def op_iast (nx : Nat) : ac_op := fun P _ lv st h k n => ac_i1 st (fun x r => ac_i1 r (fun i r => ac_a1 r (fun a r => ∃ (z : Nat) (f : Nat → Int32), h a = some (.inr (0, z, .inl f)) ∧ vp_in i z ∧ P nx lv r (ac_hs h a (.inr (0, z, .inl (upd f i.toNatClampNeg x)))) k n)))
def op_zast (nx : Nat) : ac_op := fun P _ lv st h k n => ac_i1 st (fun x r => ac_i1 r (fun i r => ac_a1 r (fun a r => ∃ (z : Nat) (f : Nat → Int32), h a = some (.inr (1, z, .inl f)) ∧ vp_in i z ∧ (x = 0 ∨ x = 1) ∧ P nx lv r (ac_hs h a (.inr (1, z, .inl (upd f i.toNatClampNeg x)))) k n)))
def op_last (nx : Nat) : ac_op := fun P _ lv st h k n => ac_l1 st (fun x r => ac_i1 r (fun i r => ac_a1 r (fun a r => ∃ (z : Nat) (f : Nat → Int64), h a = some (.inr (2, z, .inr (.inl f))) ∧ vp_in i z ∧ P nx lv r (ac_hs h a (.inr (2, z, .inr (.inl (vp_updL f i.toNatClampNeg x))))) k n)))
def ac_item : Nat → Prop → Prop
  | 4, X => X
  | 5, X => X
  | 6, X => X
  | 7, X => X
  | _, _ => False
def op_aast (t nx : Nat) : ac_op := fun P _ lv st h k n => ac_n1 st (fun r => ac_i1 r (fun i r => ac_a1 r (fun a r => ∃ (z : Nat) (f : Nat → Option Nat), h a = some (.inr (t, z, .inr (.inr f))) ∧ vp_in i z ∧ P nx lv r (ac_hs h a (.inr (t, z, .inr (.inr (va_up f i.toNatClampNeg none))))) k n))) (fun v r => ac_i1 r (fun i r => ac_a1 r (fun a r => t = 3 ∧ ∃ (z : Nat) (f : Nat → Option Nat) (ci : Nat) (fs : List Value), h a = some (.inr (3, z, .inr (.inr f))) ∧ h v = some (.inl (ci, fs)) ∧ ac_item ci (vp_in i z ∧ P nx lv r (ac_hs h a (.inr (3, z, .inr (.inr (va_up f i.toNatClampNeg (some v)))))) k n))))
def op_alen (t nx : Nat) : ac_op := fun P _ lv st h k n => ac_a1 st (fun a r => ∃ (z : Nat) (f : ac_C), h a = some (.inr (t, z, f)) ∧ P nx lv (.int (nI z) :: r) h k n)
/-- the law's own script -/
def op_sld (scr : Nat → Nat → (Nat → Int32) → Prop) (nx : Nat) : ac_op := fun P _ lv st h k n => ac_i1 st (fun i r => ac_a1 r (fun a r => ∃ (z : Nat) (f : Nat → Int32), scr a z f ∧ vp_in i z ∧ P nx lv (.int (f i.toNatClampNeg) :: r) h k n))
def op_slen (scr : Nat → Nat → (Nat → Int32) → Prop) (nx : Nat) : ac_op := fun P _ lv st h k n => ac_a1 st (fun a r => ∃ (z : Nat) (f : Nat → Int32), scr a z f ∧ P nx lv (.int (nI z) :: r) h k n)
/-- a new row of t: 0 ints, 1 booleans, 2 longs, 3 items; w bounds its length -/
def ac_zero : Nat → ac_C
  | 0 => .inl (fun _ => 0)
  | 1 => .inl (fun _ => 0)
  | 2 => .inr (.inl (fun _ => 0))
  | _ => .inr (.inr (fun _ => none))
def op_newa (R : Room) (t nx : Nat) : ac_op := fun P _ lv st h k n => ac_i1 st (fun m r => ¬ m < 0 ∧ ∃ w : Nat, m.toNatClampNeg ≤ w ∧ w ≤ 65536 ∧ k + 1 ≤ R.cells ∧ n + w ≤ R.slots ∧ ∀ q : Nat, h q = none → P nx lv (.ref q :: r) (ac_hs h q (.inr (t, m.toNatClampNeg, ac_zero t))) (k + 1) (n + w))
/-- the fields of a new object -/
def ac_fr : Nat → List Value
  | 4 => [.null]
  | 5 => [.long 0, .null]
  | 6 => [.int 0, .null, .null]
  | 7 => [.null, .int 0, .int 0]
  | 8 => [.null, .int 0]
  | 9 => [.null, .null, .null, .null, .null, .null, .null, .null, .int 0, .int 0, .int 0, .int 0]
  | _ => []
def ac_nf : Nat → Nat
  | 4 => 1
  | 5 => 2
  | 6 => 3
  | 7 => 3
  | 8 => 2
  | 9 => 12
  | _ => 0
def op_new (R : Room) (ci nx : Nat) : ac_op := fun P _ lv st h k n => k + 1 ≤ R.cells ∧ n + ac_nf ci ≤ R.slots ∧ ∀ q : Nat, h q = none → P nx lv (.ref q :: st) (ac_hs h q (.inl (ci, ac_fr ci))) (k + 1) (n + ac_nf ci)
/-- a new grid of rows: the outer row at q, the inner ones behind it -/
def ac_mh (h : ac_H) (q N K : Nat) : ac_H := fun a => if a = q then some (.inr (4, N, .inr (.inr (fun j => if j < N then some (q + 1 + j) else none)))) else if q < a ∧ a ≤ q + N then some (.inr (0, K, .inl (fun _ => 0))) else h a
def op_mnew (R : Room) (nx : Nat) : ac_op := fun P _ lv st h k n => ac_i1 st (fun y r => ac_i1 r (fun x r => ¬ x < 0 ∧ ¬ y < 0 ∧ x.toNatClampNeg ≤ 6 ∧ y.toNatClampNeg ≤ 4 ∧ k + 7 ≤ R.cells ∧ n + 30 ≤ R.slots ∧ ∀ q : Nat, (∀ j, j ≤ x.toNatClampNeg → h (q + j) = none) → P nx lv (.ref q :: r) (ac_mh h q x.toNatClampNeg y.toNatClampNeg) (k + 7) (n + 30)))
def op_inst (ci nx : Nat) : ac_op := fun P _ lv st h k n => ac_n1 st (fun r => P nx lv (.int 0 :: r) h k n) (fun a r => ∃ (cj : Nat) (fs : List Value), h a = some (.inl (cj, fs)) ∧ ac_item cj (cond (Nat.beq cj ci) (P nx lv (.int 1 :: r) h k n) (P nx lv (.int 0 :: r) h k n)))
def op_cast (ci nx : Nat) : ac_op := fun P _ lv st h k n => ac_n1 st (fun r => P nx lv (.null :: r) h k n) (fun a r => ∃ fs : List Value, h a = some (.inl (ci, fs)) ∧ P nx lv (.ref a :: r) h k n)
-- calls
def ac_pop : Nat → List Value → List Value → (List Value → List Value → Prop) → Prop
  | 0, st, acc, K => K acc st
  | i + 1, v :: st, acc, K => ac_pop i st (v :: acc) K
  | _, _, _, _ => False
/-- which exception a row of the law's table of constants names -/
def ac_cx : Nat → Nat
  | 13 => 0
  | 27 => 1
  | 29 => 2
  | 41 => 3
  | 15 => 4
  | 31 => 5
  | 64 => 6
  | _ => 7
def ac_fnd : List (Nat × Nat × Nat × Nat) → Nat → Nat → Option Nat
  | [], _, _ => none
  | q :: r, pc, x => cond (Nat.ble q.1 pc && (Nat.ble (pc + 1) q.2.1 && Nat.beq (ac_cx q.2.2.2) x)) (some q.2.2.1) (ac_fnd r pc x)
def ac_hx : Option Nat → Prop → (Nat → Prop) → Prop
  | none, N, _ => N
  | some t, _, K => K t
/-- behind a call: it returned, or it threw x: caught by a row of the table, or on to the caller -/
def ac_ko (hh : List (Nat × Nat × Nat × Nat)) (pc nx : Nat) (P : ac_P) (Q : ac_Q) (lv : ac_V) (r : List Value) (k n : Nat) : ac_Q := fun o h => match o with
  | .inl none => P nx lv r h k n
  | .inl (some v) => P nx lv (v :: r) h k n
  | .inr x => x < 7 ∧ ac_hx (ac_fnd hh pc x) (Q (.inr x) h) (fun t => ∀ a : Nat, P t lv [.ref a] h k n)
/-- a call with these arguments -/
def ac_call (R : Room) (hh : List (Nat × Nat × Nat × Nat)) (pc nx : Nat) (T : ac_T) (rc : Room) (P : ac_P) (Q : ac_Q) (lv : ac_V) (as r : List Value) (h : ac_H) (k n : Nat) : Prop :=
  r.length ≤ 4 ∧ k + rc.cells ≤ R.cells ∧ n + rc.slots ≤ R.slots ∧ T as h (ac_ko hh pc nx P Q lv r (k + rc.cells) (n + rc.slots))
def op_callS (R : Room) (hh : List (Nat × Nat × Nat × Nat)) (T : ac_T) (rc : Room) (na pc nx : Nat) : ac_op := fun P Q lv st h k n => ac_pop na st [] (fun as r => ac_call R hh pc nx T rc P Q lv as r h k n)
/-- a constructor, or a method of a known class -/
def op_callI (R : Room) (hh : List (Nat × Nat × Nat × Nat)) (T : ac_T) (rc : Room) (na pc nx : Nat) : ac_op := fun P Q lv st h k n => ac_pop na st [] (fun as r => ac_a1 r (fun a r => ac_call R hh pc nx T rc P Q lv (.ref a :: as) r h k n))
def op_callV (R : Room) (hh : List (Nat × Nat × Nat × Nat)) (ci : Nat) (T : ac_T) (rc : Room) (na pc nx : Nat) : ac_op := fun P Q lv st h k n => ac_pop na st [] (fun as r => ac_a1 r (fun a r => ∃ fs : List Value, h a = some (.inl (ci, fs)) ∧ ac_call R hh pc nx T rc P Q lv (.ref a :: as) r h k n))
def ac_vt : List (Nat × ac_T × Room) → Nat → (ac_T → Room → Prop) → Prop
  | [], _, _ => False
  | q :: t, cj, K => cond (Nat.beq q.1 cj) (K q.2.1 q.2.2) (ac_vt t cj K)
/-- by the receiver's class -/
def op_callU (R : Room) (hh : List (Nat × Nat × Nat × Nat)) (tb : List (Nat × ac_T × Room)) (na pc nx : Nat) : ac_op := fun P Q lv st h k n => ac_pop na st [] (fun as r => ac_a1 r (fun a r => ∃ (cj : Nat) (fs : List Value), h a = some (.inl (cj, fs)) ∧ ac_vt tb cj (fun T rc => ac_call R hh pc nx T rc P Q lv (.ref a :: as) r h k n)))
def op_objinit (nx : Nat) : ac_op := fun P _ lv st h k n => ac_a1 st (fun _ r => r.length ≤ 4 ∧ P nx lv r h k n)
end
section
/-! ===== the heap: rows of the machine under the abstract heap ===== -/
theorem ac_fullR {base : Nat} {D : va_G} {A : Nat → ClassId} {ah : ac_H} {H : Heap} (h : ac_Rep base D A ah H) : ∃ ws : va_W, va_P D vwCl ws H ∧ va_D (ac_B base) ws ∧ (∀ (a : Nat) (e : ac_E), ah a = some e → ∃ k : Nat, ws[k]? = some (a, ac_em A e)) ∧ ∀ (k : Nat) (q : Nat × va_E), ws[k]? = some q → ∃ e : ac_E, ah q.1 = some e ∧ q.2 = ac_em A e := by
  have key : ∀ n : Nat, ∃ ws : va_W, (∀ q ∈ ws, q.1 < n ∧ ∃ e : ac_E, ah q.1 = some e ∧ q.2 = ac_em A e) ∧ (∀ (i j : Nat) (p q : Nat × va_E), ws[i]? = some p → ws[j]? = some q → p.1 = q.1 → i = j) ∧ ∀ (a : Nat) (e : ac_E), a < n → ah a = some e → (a, ac_em A e) ∈ ws := by
    intro n
    induction n with
    | zero => exact ⟨[], fun q hq => (by cases hq), fun i j p q hi => (by simp at hi), fun a e ha => absurd ha (Nat.not_lt_zero a)⟩
    | succ n ih =>
      obtain ⟨ws, h1, h2, h3⟩ := ih
      cases hn : ah n with
      | none =>
        refine ⟨ws, fun q hq => ⟨Nat.lt_succ_of_lt (h1 q hq).1, (h1 q hq).2⟩, h2, fun a e ha he => ?_⟩
        rcases Nat.lt_succ_iff_lt_or_eq.mp ha with hl | rfl
        · exact h3 a e hl he
        · rw [hn] at he; cases he
      | some e0 =>
        refine ⟨(n, ac_em A e0) :: ws, ?_, ?_, ?_⟩
        · intro q hq
          rcases List.mem_cons.mp hq with rfl | hq
          · exact ⟨Nat.lt_succ_self n, e0, hn, rfl⟩
          · exact ⟨Nat.lt_succ_of_lt (h1 q hq).1, (h1 q hq).2⟩
        · intro i j p q hi hj hpq
          match i, j, hi, hj with
          | 0, 0, _, _ => rfl
          | 0, j + 1, hi, hj =>
            have e1 : p = (n, ac_em A e0) := by simpa using hi.symm
            have e2 := (h1 q (List.mem_of_getElem? (by simpa using hj))).1
            rw [← hpq, e1] at e2
            exact absurd e2 (Nat.lt_irrefl n)
          | i + 1, 0, hi, hj =>
            have e1 : q = (n, ac_em A e0) := by simpa using hj.symm
            have e2 := (h1 p (List.mem_of_getElem? (by simpa using hi))).1
            rw [hpq, e1] at e2
            exact absurd e2 (Nat.lt_irrefl n)
          | i + 1, j + 1, hi, hj => exact congrArg (· + 1) (h2 i j p q (by simpa using hi) (by simpa using hj) hpq)
        · intro a e ha he
          rcases Nat.lt_succ_iff_lt_or_eq.mp ha with hl | rfl
          · exact List.mem_cons_of_mem _ (h3 a e hl he)
          · rw [hn] at he; cases he; exact List.mem_cons_self
  obtain ⟨ws, h1, h2, h3⟩ := key H.size
  refine ⟨ws, ?_, ⟨h2, ?_⟩, ?_, ?_⟩
  · intro k q hq
    obtain ⟨-, e, he, hx⟩ := h1 q (List.mem_of_getElem? hq)
    obtain ⟨a, x⟩ := q
    dsimp only at he hx
    subst hx
    exact (h.2 a e he).2
  · intro k q hq
    obtain ⟨-, e, he, hx⟩ := h1 q (List.mem_of_getElem? hq)
    exact (h.2 q.1 e he).1
  · intro a e he
    exact List.getElem?_of_mem (h3 a e (h.2 a e he).2.lt he)
  · intro k q hq
    exact (h1 q (List.mem_of_getElem? hq)).2
theorem ac_setR {base : Nat} {D : va_G} {A : Nat → ClassId} {ah : ac_H} {H1 : Heap} {ws : va_W} {a q0 : Nat} {x : va_E} (e' : ac_E) (hD : va_D (ac_B base) ws) (hin : ∀ (a : Nat) (e : ac_E), ah a = some e → ∃ k : Nat, ws[k]? = some (a, ac_em A e)) (h0 : ws[q0]? = some (a, x)) (hb : base ≤ H1.size) (hP : va_P D vwCl (ws.set q0 (a, ac_em A e')) H1) : ac_Rep base D A (ac_hs ah a e') H1 := by
  have hlt : q0 < ws.length := (List.getElem?_eq_some_iff.mp h0).1
  refine ⟨hb, fun b e hbe => ?_⟩
  unfold ac_hs at hbe
  by_cases q : b = a
  · subst q
    rw [if_pos rfl] at hbe
    cases hbe
    exact ⟨hD.2 q0 _ h0, hP q0 _ (by simp [hlt])⟩
  · rw [if_neg q] at hbe
    obtain ⟨k, hk⟩ := hin b e hbe
    have hne : q0 ≠ k := fun z => by subst z; rw [h0] at hk; cases hk; exact q rfl
    exact ⟨hD.2 k _ hk, hP k _ (by rw [List.getElem?_set_ne hne]; exact hk)⟩
theorem ac_appR {base : Nat} {D : va_G} {A : Nat → ClassId} {ah : ac_H} {H1 : Heap} {ws : va_W} {a : Nat} (e' : ac_E) (hin : ∀ (a : Nat) (e : ac_E), ah a = some e → ∃ k : Nat, ws[k]? = some (a, ac_em A e)) (hb : base ≤ H1.size) (hD : va_D (ac_B base) (ws ++ [(a, ac_em A e')])) (hP : va_P D vwCl (ws ++ [(a, ac_em A e')]) H1) : ah a = none ∧ ac_Rep base D A (ac_hs ah a e') H1 := by
  have hl : (ws ++ [(a, ac_em A e')])[ws.length]? = some (a, ac_em A e') := by simp
  have hk' : ∀ (b : Nat) (e : ac_E), ah b = some e → ∃ k : Nat, k < ws.length ∧ (ws ++ [(a, ac_em A e')])[k]? = some (b, ac_em A e) := by
    intro b e he
    obtain ⟨k, hk⟩ := hin b e he
    have hlt : k < ws.length := (List.getElem?_eq_some_iff.mp hk).1
    exact ⟨k, hlt, by rw [List.getElem?_append_left hlt]; exact hk⟩
  refine ⟨?_, hb, fun b e hbe => ?_⟩
  · cases he : ah a with
    | none => rfl
    | some e =>
      obtain ⟨k, h1, h2⟩ := hk' a e he
      have := hD.1 k ws.length _ _ h2 hl rfl
      omega
  · unfold ac_hs at hbe
    by_cases q : b = a
    · subst q
      rw [if_pos rfl] at hbe
      cases hbe
      exact ⟨hD.2 _ _ hl, hP _ _ hl⟩
    · rw [if_neg q] at hbe
      obtain ⟨k, -, h2⟩ := hk' b e hbe
      exact ⟨hD.2 k _ h2, hP k _ h2⟩
theorem ac_baseS {base : Nat} {H0 H : Heap} {locs : List Loc} (h0 : base ≤ H0.size) (h : va_S (ac_B base) H0 H locs) : base ≤ H.size := Nat.le_trans h0 h.1
theorem ac_newA {base : Nat} {H0 : Heap} (h0 : base ≤ H0.size) : ∀ q, H0.size ≤ q → ac_B base q := fun _ h => Nat.le_trans h0 h
/-- a kind and a field's type -/
def ac_fo : Nat → FieldType → Bool
  | 0, .int => true
  | 1, .long => true
  | 2, .object _ => true
  | 2, .array _ => true
  | _, _ => false
theorem ac_kvv {k : Nat} {ty : FieldType} {v : Value} {X : Prop} (hf : ac_fo k ty = true) (h : ac_kv k v X) : narrow ty v = v ∧ fits ty v = true ∧ X := by
  match k, v, h with
  | 0, .int x, h =>
    match ty, hf with
    | .int, _ => exact ⟨rfl, rfl, h⟩
  | 1, .long x, h =>
    match ty, hf with
    | .long, _ => exact ⟨rfl, rfl, h⟩
  | 2, .ref x, h =>
    match ty, hf with
    | .object _, _ => exact ⟨rfl, rfl, h⟩
    | .array _, _ => exact ⟨rfl, rfl, h⟩
  | 2, .null, h =>
    match ty, hf with
    | .object _, _ => exact ⟨rfl, rfl, h⟩
    | .array _, _ => exact ⟨rfl, rfl, h⟩
section ACH
variable {M : ac_D} {scr : Nat → Nat → (Nat → Int32) → Prop} {pc nx tg : Nat}
theorem so_get {ci f N idx : Nat} {C : String} {T : u_T} (hc : vwCl[ci]? = some (C, T, N)) (hin : ∀ w ∈ u_ws C T N, w ∈ ac_gw) (hk : f < N) (hd : decode M.2.2.1 pc = .ok (.getfield idx, 3)) (hw : Cond.fieldLink M.1 idx (T f).1 (T f).2.1 (T f).2.2.1 ∈ ac_gw) (hn : pc + 3 = nx) : ac_So M scr pc (op_get ci f nx) := by
  subst hn
  intro p l e s m args below meth c base D A Q G lv st ah k n h H locs ls hR hS hL
  obtain ⟨-, hx, hb, -, -, hown, hts, -, -, hK, -⟩ := G
  obtain ⟨a, r, rfl, fs, v, h1, h2, h3⟩ := ac_a1v h
  obtain ⟨ws, hP, hD, hin1, -⟩ := ac_fullR hR
  obtain ⟨q0, hq⟩ := hin1 a _ h1
  exact va_get (D := D) hx hb hts hin hown hK.1 hP q0 hq hc f hk (hts _ hw) (fun _ z => z) h2 hd (h3 H locs ls hR hS hL)
theorem so_getN {ci f N idx : Nat} {C host : String} {T : u_T} (hc : vwCl[ci]? = some (C, T, N)) (hin : ∀ w ∈ u_ws C T N, w ∈ ac_gw) (hk : f < N) (hd : decode M.2.2.1 pc = .ok (.getfield idx, 3)) (hw : Cond.fieldLinkNest M.1 idx (T f).1 (T f).2.1 (T f).2.2.1 host ∈ ac_ng) (hn : pc + 3 = nx) : ac_So M scr pc (op_get ci f nx) := by
  subst hn
  intro p l e s m args below meth c base D A Q G lv st ah k n h H locs ls hR hS hL
  obtain ⟨-, hx, hb, -, -, hown, hts, -, -, hK, -⟩ := G
  obtain ⟨a, r, rfl, fs, v, h1, h2, h3⟩ := ac_a1v h
  obtain ⟨ws, hP, hD, hin1, -⟩ := ac_fullR hR
  obtain ⟨q0, hq⟩ := hin1 a _ h1
  exact va_getN (D := D) hx hb hts hin hown hK.1 hP q0 hq hc f hk (va_Nw.use rfl (hK.2.2.2.2.2.1 _ hw)) (fun _ z => z) h2 hd (h3 H locs ls hR hS hL)
theorem so_put {ci f N idx : Nat} {C : String} {T : u_T} {ty : Nat → FieldType} (hc : vwCl[ci]? = some (C, T, N)) (hin : ∀ w ∈ u_ws C T N, w ∈ ac_gw) (hty : ∀ k, k < N → parseFieldDescriptor (T k).2.2.1 = some (ty k)) (hnm : ∀ a, a < N → ∀ b, b < N → a ≠ b → (T a).2.1 ≠ (T b).2.1) (hk : f < N) (hfo : ac_fo (ac_fk ci f) (ty f) = true) (hfin : (T f).2.2.2 = false) (hd : decode M.2.2.1 pc = .ok (.putfield idx, 3)) (hw : Cond.fieldLink M.1 idx (T f).1 (T f).2.1 (T f).2.2.1 ∈ ac_gw) (hn : pc + 3 = nx) : ac_So M scr pc (op_put ci f nx) := by
  subst hn
  intro p l e s m args below meth c base D A Q G lv st ah k n h H locs ls hR hS hL
  obtain ⟨-, hx, hb, -, -, hown, hts, -, -, hK, hbs, -⟩ := G
  match st, h with
  | v :: st, h =>
    obtain ⟨a, r, rfl, fs, h1, h2, h3⟩ := ac_a1v h
    obtain ⟨k1, k2, h4⟩ := ac_kvv hfo h3
    obtain ⟨ws, hP, hD, hin1, -⟩ := ac_fullR hR
    obtain ⟨q0, hq⟩ := hin1 a _ h1
    exact va_put (D := D) hx hb hts hin ty hty hnm hown hK.1 hP hD hS q0 hq hc f hk (hts _ hw) (fun _ z => z) hfin (hty f hk) k1 k2 h2 hd (fun H1 locs1 hP1 hD1 hS1 => h4 H1 locs1 ls (ac_setR (.inl (ci, fs.set f v)) hD hin1 hq (ac_baseS hbs hS1) hP1) hS1 hL)
theorem so_putN {ci f N idx : Nat} {C host : String} {T : u_T} {ty : Nat → FieldType} (hc : vwCl[ci]? = some (C, T, N)) (hin : ∀ w ∈ u_ws C T N, w ∈ ac_gw) (hty : ∀ k, k < N → parseFieldDescriptor (T k).2.2.1 = some (ty k)) (hnm : ∀ a, a < N → ∀ b, b < N → a ≠ b → (T a).2.1 ≠ (T b).2.1) (hk : f < N) (hfo : ac_fo (ac_fk ci f) (ty f) = true) (hfin : (T f).2.2.2 = false) (hd : decode M.2.2.1 pc = .ok (.putfield idx, 3)) (hw : Cond.fieldLinkNest M.1 idx (T f).1 (T f).2.1 (T f).2.2.1 host ∈ ac_ng) (hn : pc + 3 = nx) : ac_So M scr pc (op_put ci f nx) := by
  subst hn
  intro p l e s m args below meth c base D A Q G lv st ah k n h H locs ls hR hS hL
  obtain ⟨-, hx, hb, -, -, hown, hts, -, -, hK, hbs, -⟩ := G
  match st, h with
  | v :: st, h =>
    obtain ⟨a, r, rfl, fs, h1, h2, h3⟩ := ac_a1v h
    obtain ⟨k1, k2, h4⟩ := ac_kvv hfo h3
    obtain ⟨ws, hP, hD, hin1, -⟩ := ac_fullR hR
    obtain ⟨q0, hq⟩ := hin1 a _ h1
    exact va_putN (D := D) hx hb hts hin ty hty hnm hown hK.1 hP hD hS q0 hq hc f hk (va_Nw.use rfl (hK.2.2.2.2.2.1 _ hw)) (fun _ z => z) hfin (hty f hk) k1 k2 h2 hd (fun H1 locs1 hP1 hD1 hS1 => h4 H1 locs1 ls (ac_setR (.inl (ci, fs.set f v)) hD hin1 hq (ac_baseS hbs hS1) hP1) hS1 hL)
theorem so_putF {ci f N idx : Nat} {C : String} {T : u_T} {ty : Nat → FieldType} (hc : vwCl[ci]? = some (C, T, N)) (hin : ∀ w ∈ u_ws C T N, w ∈ ac_gw) (hty : ∀ k, k < N → parseFieldDescriptor (T k).2.2.1 = some (ty k)) (hnm : ∀ a, a < N → ∀ b, b < N → a ≠ b → (T a).2.1 ≠ (T b).2.1) (hk : f < N) (hfo : ac_fo (ac_fk ci f) (ty f) = true) (hfin : (T f).2.2.2 = true) (hin2 : M.2.1 = "<init>") (hdecl : (T f).1 = M.1) (hd : decode M.2.2.1 pc = .ok (.putfield idx, 3)) (hw : Cond.fieldLink M.1 idx (T f).1 (T f).2.1 (T f).2.2.1 ∈ ac_gw) (hn : pc + 3 = nx) : ac_So M scr pc (op_put ci f nx) := by
  subst hn
  intro p l e s m args below meth c base D A Q G lv st ah k n h H locs ls hR hS hL
  obtain ⟨-, hx, hb, -, -, hown, hts, -, -, hK, hbs, hmn, -⟩ := G
  match st, h with
  | v :: st, h =>
    obtain ⟨a, r, rfl, fs, h1, h2, h3⟩ := ac_a1v h
    obtain ⟨k1, k2, h4⟩ := ac_kvv hfo h3
    obtain ⟨ws, hP, hD, hin1, -⟩ := ac_fullR hR
    obtain ⟨q0, hq⟩ := hin1 a _ h1
    exact va_putF (D := D) hx hb hts hin ty hty hnm hown hK.1 hP hD hS q0 hq hc f hk (hts _ hw) (fun _ z => z) hfin (hmn.trans hin2) hdecl (hty f hk) k1 k2 h2 hd (fun H1 locs1 hP1 hD1 hS1 => h4 H1 locs1 ls (ac_setR (.inl (ci, fs.set f v)) hD hin1 hq (ac_baseS hbs hS1) hP1) hS1 hL)
theorem so_iald (hd : decode M.2.2.1 pc = .ok (.iaload, 1)) (hn : pc + 1 = nx) : ac_So M scr pc (op_iald nx) := by
  subst hn
  intro p l e s m args below meth c base D A Q G lv st ah k n h H locs ls hR hS hL
  obtain ⟨-, hx, hb, -, -, hown, hts, -, -, hK, hbs, -⟩ := G
  obtain ⟨ws, hP, hD, hin1, -⟩ := ac_fullR hR
  obtain ⟨i, r1, rfl, g1⟩ := ac_i1v h
  obtain ⟨a, r, rfl, z, f, h1, h2, h3⟩ := ac_a1v g1
  obtain ⟨q0, hq⟩ := hin1 a _ h1
  exact va_iald (D := D) hx hb hK.1 hP q0 0 hq rfl h2 hd (h3 H locs ls hR hS hL)
theorem so_zald (hd : decode M.2.2.1 pc = .ok (.baload, 1)) (hn : pc + 1 = nx) : ac_So M scr pc (op_zald nx) := by
  subst hn
  intro p l e s m args below meth c base D A Q G lv st ah k n h H locs ls hR hS hL
  obtain ⟨-, hx, hb, -, -, hown, hts, -, -, hK, hbs, -⟩ := G
  obtain ⟨ws, hP, hD, hin1, -⟩ := ac_fullR hR
  obtain ⟨i, r1, rfl, g1⟩ := ac_i1v h
  obtain ⟨a, r, rfl, z, f, h1, h2, h3⟩ := ac_a1v g1
  obtain ⟨q0, hq⟩ := hin1 a _ h1
  exact va_zald (D := D) hx hb hK.1 hP q0 1 hq rfl h2 hd (h3 H locs ls hR hS hL)
theorem so_lald (hd : decode M.2.2.1 pc = .ok (.laload, 1)) (hn : pc + 1 = nx) : ac_So M scr pc (op_lald nx) := by
  subst hn
  intro p l e s m args below meth c base D A Q G lv st ah k n h H locs ls hR hS hL
  obtain ⟨-, hx, hb, -, -, hown, hts, -, -, hK, hbs, -⟩ := G
  obtain ⟨ws, hP, hD, hin1, -⟩ := ac_fullR hR
  obtain ⟨i, r1, rfl, g1⟩ := ac_i1v h
  obtain ⟨a, r, rfl, z, f, h1, h2, h3⟩ := ac_a1v g1
  obtain ⟨q0, hq⟩ := hin1 a _ h1
  exact va_lald (D := D) hx hb hK.1 hP q0 2 hq rfl h2 hd (h3 H locs ls hR hS hL)
theorem so_iast (hd : decode M.2.2.1 pc = .ok (.iastore, 1)) (hn : pc + 1 = nx) : ac_So M scr pc (op_iast nx) := by
  subst hn
  intro p l e s m args below meth c base D A Q G lv st ah k n h H locs ls hR hS hL
  obtain ⟨-, hx, hb, -, -, hown, hts, -, -, hK, hbs, -⟩ := G
  obtain ⟨ws, hP, hD, hin1, -⟩ := ac_fullR hR
  obtain ⟨x, r1, rfl, g1⟩ := ac_i1v h
  obtain ⟨i, r2, rfl, g2⟩ := ac_i1v g1
  obtain ⟨a, r, rfl, z, f, h1, h2, h3⟩ := ac_a1v g2
  obtain ⟨q0, hq⟩ := hin1 a _ h1
  exact va_iast (D := D) hx hb hK.1 hP hD hS q0 0 hq rfl h2 hd (fun H1 locs1 hP1 hD1 hS1 => h3 H1 locs1 ls (ac_setR (.inr (0, z, .inl (upd f i.toNatClampNeg x))) hD hin1 hq (ac_baseS hbs hS1) hP1) hS1 hL)
theorem so_last (hd : decode M.2.2.1 pc = .ok (.lastore, 1)) (hn : pc + 1 = nx) : ac_So M scr pc (op_last nx) := by
  subst hn
  intro p l e s m args below meth c base D A Q G lv st ah k n h H locs ls hR hS hL
  obtain ⟨-, hx, hb, -, -, hown, hts, -, -, hK, hbs, -⟩ := G
  obtain ⟨ws, hP, hD, hin1, -⟩ := ac_fullR hR
  obtain ⟨x, r1, rfl, g1⟩ := ac_l1v h
  obtain ⟨i, r2, rfl, g2⟩ := ac_i1v g1
  obtain ⟨a, r, rfl, z, f, h1, h2, h3⟩ := ac_a1v g2
  obtain ⟨q0, hq⟩ := hin1 a _ h1
  exact va_last (D := D) hx hb hK.1 hP hD hS q0 2 hq rfl h2 hd (fun H1 locs1 hP1 hD1 hS1 => h3 H1 locs1 ls (ac_setR (.inr (2, z, .inr (.inl (vp_updL f i.toNatClampNeg x)))) hD hin1 hq (ac_baseS hbs hS1) hP1) hS1 hL)
theorem so_zast (hd : decode M.2.2.1 pc = .ok (.bastore, 1)) (hn : pc + 1 = nx) : ac_So M scr pc (op_zast nx) := by
  subst hn
  intro p l e s m args below meth c base D A Q G lv st ah k n h H locs ls hR hS hL
  obtain ⟨-, hx, hb, -, -, hown, hts, -, -, hK, hbs, -⟩ := G
  obtain ⟨ws, hP, hD, hin1, -⟩ := ac_fullR hR
  obtain ⟨x, r1, rfl, g1⟩ := ac_i1v h
  obtain ⟨i, r2, rfl, g2⟩ := ac_i1v g1
  obtain ⟨a, r, rfl, z, f, h1, h2, hx01, h3⟩ := ac_a1v g2
  obtain ⟨q0, hq⟩ := hin1 a _ h1
  have hnar : vp_nar .boolean x = x := by rcases hx01 with rfl | rfl <;> decide +kernel
  refine va_zast (D := D) hx hb hK.1 hP hD hS q0 1 hq rfl h2 hd (fun H1 locs1 hP1 hD1 hS1 => ?_)
  rw [hnar] at hP1
  exact h3 H1 locs1 ls (ac_setR (.inr (1, z, .inl (upd f i.toNatClampNeg x))) hD hin1 hq (ac_baseS hbs hS1) hP1) hS1 hL
theorem ac_emA {A : Nat → ClassId} {t z : Nat} {f : ac_C} : ∃ y : ((Nat → Int32) ⊕ (Nat → Int64) ⊕ (Nat → UInt32) ⊕ (Nat → UInt64) ⊕ (Nat → Option Nat)), ac_em A (.inr (t, z, f)) = .inl (A t, z, y) := by
  match f with
  | .inl f => exact ⟨_, rfl⟩
  | .inr (.inl f) => exact ⟨_, rfl⟩
  | .inr (.inr f) => exact ⟨_, rfl⟩
theorem so_alen {t : Nat} {ty : FieldType} (ht : ∀ A : Nat → ClassId, (ac_tys A)[t]? = some (A t, ty)) (hd : decode M.2.2.1 pc = .ok (.arraylength, 1)) (hn : pc + 1 = nx) : ac_So M scr pc (op_alen t nx) := by
  subst hn
  intro p l e s m args below meth c base D A Q G lv st ah k n h H locs ls hR hS hL
  obtain ⟨-, hx, hb, -, -, hown, hts, -, -, hK, hbs, -⟩ := G
  obtain ⟨ws, hP, hD, hin1, -⟩ := ac_fullR hR
  obtain ⟨a, r, rfl, z, f, h1, h3⟩ := ac_a1v h
  obtain ⟨q0, hq⟩ := hin1 a _ h1
  obtain ⟨y, hy⟩ := ac_emA (A := A) (t := t) (z := z) (f := f)
  rw [hy] at hq
  exact va_alen (D := D) hx hb hK.1 hP q0 t hq (ht A) rfl hd (h3 H locs ls hR hS hL)
theorem so_sld (hd : decode M.2.2.1 pc = .ok (.iaload, 1)) (hn : pc + 1 = nx) : ac_So M scr pc (op_sld scr nx) := by
  subst hn
  intro p l e s m args below meth c base D A Q G lv st ah k n h H locs ls hR hS hL
  obtain ⟨-, hx, hb, -, -, hown, hts, -, -, hK, hbs, -, hsc⟩ := G
  obtain ⟨i, r1, rfl, g1⟩ := ac_i1v h
  obtain ⟨a, r, rfl, z, f, h1, h2, h3⟩ := ac_a1v g1
  obtain ⟨q1, q2⟩ := hsc a z f h1
  exact va_sld hx hb q2 (Nat.lt_of_lt_of_le q1 hbs) (fun z => absurd z (Nat.not_le.mpr q1)) hS h2 hd (h3 H locs ls hR hS hL)
theorem so_slen (hd : decode M.2.2.1 pc = .ok (.arraylength, 1)) (hn : pc + 1 = nx) : ac_So M scr pc (op_slen scr nx) := by
  subst hn
  intro p l e s m args below meth c base D A Q G lv st ah k n h H locs ls hR hS hL
  obtain ⟨-, hx, hb, -, -, hown, hts, -, -, hK, hbs, -, hsc⟩ := G
  obtain ⟨a, r, rfl, z, f, h1, h3⟩ := ac_a1v h
  obtain ⟨q1, q2⟩ := hsc a z f h1
  exact va_slen hx hb q2 (Nat.lt_of_lt_of_le q1 hbs) (fun z => absurd z (Nat.not_le.mpr q1)) hS hd (h3 H locs ls hR hS hL)
theorem so_aald3 (hd : decode M.2.2.1 pc = .ok (.aaload, 1)) (hn : pc + 1 = nx) : ac_So M scr pc (op_aald 3 nx) := by
  subst hn
  intro p l e s m args below meth c base D A Q G lv st ah k n h H locs ls hR hS hL
  obtain ⟨-, hx, hb, -, -, hown, hts, -, -, hK, hbs, -⟩ := G
  obtain ⟨ws, hP, hD, hin1, -⟩ := ac_fullR hR
  obtain ⟨i, r1, rfl, g1⟩ := ac_i1v h
  obtain ⟨a, r, rfl, z, f, h1, h2, h3, h4⟩ := ac_a1v g1
  obtain ⟨q0, hq⟩ := hin1 a _ h1
  refine va_aldq (D := D) hx hb hK.1 hP q0 3 hq rfl h2 hd ?_
  cases hf : f i.toNatClampNeg with
  | none => exact h3 hf H locs ls hR hS hL
  | some q => exact h4 q hf H locs ls hR hS hL
theorem so_aald4 (hd : decode M.2.2.1 pc = .ok (.aaload, 1)) (hn : pc + 1 = nx) : ac_So M scr pc (op_aald 4 nx) := by
  subst hn
  intro p l e s m args below meth c base D A Q G lv st ah k n h H locs ls hR hS hL
  obtain ⟨-, hx, hb, -, -, hown, hts, -, -, hK, hbs, -⟩ := G
  obtain ⟨ws, hP, hD, hin1, -⟩ := ac_fullR hR
  obtain ⟨i, r1, rfl, g1⟩ := ac_i1v h
  obtain ⟨a, r, rfl, z, f, h1, h2, h3, h4⟩ := ac_a1v g1
  obtain ⟨q0, hq⟩ := hin1 a _ h1
  have hlt : i.toNatClampNeg < z := Nat.not_le.mp fun q => h2 (Or.inr q)
  refine W.aald (v := va_rf (f i.toNatClampNeg)) (ty := .array .int) hx hb (hP q0 _ hq) ((hK.1.2 4 _ rfl).1 z (fun j => va_rf (f j))) rfl (fun q => by cases q) (by show ¬ (i < 0 ∨ (arrV _ _ _).slots.size ≤ _); rw [arrV_size]; exact h2) (by show (arrV _ _ _).slots[_]? = _; rw [arrV_read _ _ hlt]) rfl rfl hd ?_
  cases hf : f i.toNatClampNeg with
  | none => exact h3 hf H locs ls hR hS hL
  | some q => exact h4 q hf H locs ls hR hS hL
theorem ac_itemv {ci : Nat} {X : Prop} (h : ac_item ci X) : (∃ r : vw_C, vwCl[ci]? = some r ∧ (r.1 = RX0 ∨ r.1 = RX2 ∨ r.1 = RX3 ∨ r.1 = RX4)) ∧ X := by
  match ci, h with
  | 4, h => exact ⟨⟨_, rfl, Or.inl rfl⟩, h⟩
  | 5, h => exact ⟨⟨_, rfl, Or.inr (Or.inl rfl)⟩, h⟩
  | 6, h => exact ⟨⟨_, rfl, Or.inr (Or.inr (Or.inl rfl))⟩, h⟩
  | 7, h => exact ⟨⟨_, rfl, Or.inr (Or.inr (Or.inr rfl))⟩, h⟩
theorem ac_caI : ∀ C ∈ [RX0, RX2, RX3, RX4], Cond.castable C "TypedHall$Item" ∈ ac_ng := by decide +kernel
theorem so_aast3 (hd : decode M.2.2.1 pc = .ok (.aastore, 1)) (hn : pc + 1 = nx) : ac_So M scr pc (op_aast 3 nx) := by
  subst hn
  intro p l e s m args below meth c base D A Q G lv st ah k n h H locs ls hR hS hL
  obtain ⟨-, hx, hb, -, -, hown, hts, -, -, hK, hbs, -⟩ := G
  obtain ⟨ws, hP, hD, hin1, -⟩ := ac_fullR hR
  rcases ac_n1v h with ⟨r0, rfl, g0⟩ | ⟨v, r0, rfl, g0⟩
  · obtain ⟨i, r1, rfl, g1⟩ := ac_i1v g0
    obtain ⟨a, r, rfl, z, f, h1, h2, h3⟩ := ac_a1v g1
    obtain ⟨q0, hq⟩ := hin1 a _ h1
    exact va_astqN (D := D) hx hb hK.1 hP hD hS q0 3 hq rfl h2 hd (fun H1 locs1 hP1 hD1 hS1 => h3 H1 locs1 ls (ac_setR (.inr (3, z, .inr (.inr (va_up f i.toNatClampNeg none)))) hD hin1 hq (ac_baseS hbs hS1) hP1) hS1 hL)
  · obtain ⟨i, r1, rfl, g1⟩ := ac_i1v g0
    obtain ⟨a, r, rfl, -, z, f, ci, fs, h1, h1v, h2⟩ := ac_a1v g1
    obtain ⟨⟨rc, hrc, hrn⟩, h2, h3⟩ := ac_itemv h2
    obtain ⟨q0, hq⟩ := hin1 a _ h1
    obtain ⟨qk, hqk⟩ := hin1 v _ h1v
    have hca : va_Nw (.castable rc.1 "TypedHall$Item") s := hK.2.2.2.2.2.1 _ (ac_caI rc.1 (by rcases hrn with q | q | q | q <;> rw [q] <;> simp))
    exact va_astqO (D := D) hx hb hK.1 hP hD hS q0 3 qk ci hq rfl hca hqk hrc h2 hd (fun H1 locs1 hP1 hD1 hS1 => h3 H1 locs1 ls (ac_setR (.inr (3, z, .inr (.inr (va_up f i.toNatClampNeg (some v))))) hD hin1 hq (ac_baseS hbs hS1) hP1) hS1 hL)
end ACH
section ACN
variable {p : Program} {l : Launch} {e : Env} {R : Room} {s : State} {m : MethodId} {args : Array Value} {below : List Frame} {meth : Method} {c : Code} {H : Heap} {locs : List Loc} {cells slots : Nat} {Q : State → Prop} {cc : ByteArray}
theorem ac_aastN0 {T : State} (X : Stand p l e R s m args below meth c T locs cells slots) (hexec : p.tables.exec = Jvm.exec) {a : Addr} {cell : Cell} {j : Int32} (hcell : T.heap[a]? = some cell) (harr : s.isArrayOf cell (.array .int)) (hknown : cell.vm ≠ .unknown)
    (hin : ¬ (j < 0 ∨ cell.slots.size ≤ j.toNatClampNeg))
    {g : JFrame} (hg : g.method = m) {rest : List Value} (hstack : g.stack = .null :: .int j :: .ref a :: rest) (hdg : decode c.code g.pc = .ok (.aastore, 1)) :
    Stand p l e R s m args below meth c (T.setCell a (cell.setSlot j.toNatClampNeg .null)) (locs ++ [⟨a, j.toNatClampNeg⟩]) cells slots ∧
      ∀ target, Steps p.tables e below ((T.setCell a (cell.setSlot j.toNatClampNeg .null)).setTop { g with pc := g.pc + 1, stack := rest }) target → Steps p.tables e below (T.setTop g) target := by
  have hT := State.isArrayOf_alike X.warmed.alike harr
  have hfit : T.fitsSlot cell.cls cell.vm j.toNatClampNeg .null = true := by
    obtain ⟨hobj, k, hk, comp, hkind⟩ := hT
    cases hvm : cell.vm <;> first | exact absurd hvm (hobj _) | simp [State.fitsSlot, State.slotType?, hk, hkind, fits]
  refine ⟨X.stored hcell _ _, fun target hrest => ?_⟩
  subst hg
  jvm_step X.here [hexec, hdg]
  refine aastore.wp_of_null (c := cell) (t := .array .int) X.here.top hstack hcell hT hin hknown (Nat.not_le.mp fun q => hin (Or.inr q)) hfit ?_
  intro acts
  rw [afterInstr_ok]
  exact hrest
theorem ac_WaastN (hexec : p.tables.exec = Jvm.exec) (hb : c.code = cc) {a : Addr} {cell : Cell} {j : Int32} (hcell : H[a]? = some cell) (harr : s.isArrayOf cell (.array .int)) (hknown : cell.vm ≠ .unknown) (hin : ¬ (j < 0 ∨ cell.slots.size ≤ j.toNatClampNeg))
    {g : JFrame} (hg : g.method = m) {rest : List Value} (hstack : g.stack = .null :: .int j :: .ref a :: rest) (hdg : decode cc g.pc = .ok (.aastore, 1))
    (kk : ∀ H' : Heap, H'[a]? = some (cell.setSlot j.toNatClampNeg .null) → H'.size = H.size → (∀ q, q ≠ a → H'[q]? = H[q]?) → W p l e R s m args below meth c H' (locs ++ [⟨a, j.toNatClampNeg⟩]) cells slots Q { g with pc := g.pc + 1, stack := rest }) :
    W p l e R s m args below meth c H locs cells slots Q g := by
  intro T hT X
  have hT' : T.heap[a]? = some cell := by rw [hT]; exact hcell
  obtain ⟨X', st⟩ := ac_aastN0 X hexec hT' harr hknown hin hg hstack (by rw [hb]; exact hdg)
  have hlt : a < T.heap.size := (Array.getElem?_eq_some_iff.mp hT').1
  obtain ⟨t', a1, b1⟩ := kk _ (heapAt_setCell_self _ hlt) (by rw [size_setCell, hT]) (fun q hq => by rw [heapAt_setCell_ne _ (Ne.symm hq), hT]) (T.setCell a (cell.setSlot j.toNatClampNeg .null)) rfl X'
  exact ⟨t', st t' a1, b1⟩
end ACN
section ACH
variable {M : ac_D} {scr : Nat → Nat → (Nat → Int32) → Prop} {pc nx tg : Nat}
theorem so_aast4 (hd : decode M.2.2.1 pc = .ok (.aastore, 1)) (hn : pc + 1 = nx) : ac_So M scr pc (op_aast 4 nx) := by
  subst hn
  intro p l e s m args below meth c base D A Q G lv st ah k n h H locs ls hR hS hL
  obtain ⟨-, hx, hb, -, -, hown, hts, -, -, hK, hbs, -⟩ := G
  obtain ⟨ws, hP, hD, hin1, -⟩ := ac_fullR hR
  rcases ac_n1v h with ⟨r0, rfl, g0⟩ | ⟨v, r0, rfl, g0⟩
  · obtain ⟨i, r1, rfl, g1⟩ := ac_i1v g0
    obtain ⟨a, r, rfl, z, f, h1, h2, h3⟩ := ac_a1v g1
    obtain ⟨q0, hq⟩ := hin1 a _ h1
    refine ac_WaastN hx hb (hP q0 _ hq) ((hK.1.2 4 _ rfl).1 z (fun j => va_rf (f j))) (fun h => by cases h) (by show ¬ (i < 0 ∨ (arrV _ _ _).slots.size ≤ _); rw [arrV_size]; exact h2) rfl rfl hd fun H1 e zz oq => ?_
    have hS1 := hS.put (k := i.toNatClampNeg) zz oq (hD.2 q0 _ hq)
    refine h3 H1 _ ls (ac_setR (.inr (4, z, .inr (.inr (va_up f i.toNatClampNeg none)))) hD hin1 hq (ac_baseS hbs hS1) (hP.set hD hq ?_ oq)) hS1 hL
    show H1[a]? = some (vp_cell _ _)
    rw [e]
    show some ((vp_cell (A 4) (z, .inr (.inr (.inr (.inr f))))).setSlot _ _) = _
    rw [vp_cell_q, vp_cell_q, arrV_store]
    congr 2
    funext q
    by_cases hq : q = i.toNatClampNeg
    · subst hq
      simp [updV, va_up, va_rf]
    · simp [updV, va_up, hq]
  · obtain ⟨i, r1, rfl, g1⟩ := ac_i1v g0
    obtain ⟨a, r, rfl, h4, -⟩ := ac_a1v g1
    cases h4
end ACH
end
section
/-! ===== new cells; questions on classes; returns ===== -/
theorem ac_newR {base : Nat} {D : va_G} {A : Nat → ClassId} {ah : ac_H} {H0 H H1 : Heap} {locs : List Loc} (e' : ac_E) (hR : ac_Rep base D A ah H) (hbs : base ≤ H0.size) (hS : va_S (ac_B base) H0 H locs) (hz : H1.size = H.size + 1) (ho : ∀ q : Nat, q < H.size → H1[q]? = H[q]?) (he : va_at D vwCl (H.size, ac_em A e') H1) : ah H.size = none ∧ ac_Rep base D A (ac_hs ah H.size e') H1 ∧ va_S (ac_B base) H0 H1 locs := by
  have hlt : ∀ (a : Nat) (e : ac_E), ah a = some e → a < H.size := fun a e h => (hR.2 a e h).2.lt
  refine ⟨?_, ⟨by have := hR.1; omega, fun b e hb => ?_⟩, ⟨by have := hS.1; omega, fun q h1 h2 => (ho q (Nat.lt_of_lt_of_le h1 hS.1)).trans (hS.2.1 q h1 h2), hS.2.2⟩⟩
  · cases hc : ah H.size with
    | none => rfl
    | some e => exact absurd (hlt _ _ hc) (Nat.lt_irrefl _)
  · unfold ac_hs at hb
    by_cases q : b = H.size
    · subst q
      rw [if_pos rfl] at hb
      cases hb
      exact ⟨hR.1, he⟩
    · rw [if_neg q] at hb
      exact ⟨(hR.2 b e hb).1, (hR.2 b e hb).2.kept (ho b (hlt b e hb))⟩
section ACW
variable {M : ac_D} {scr : Nat → Nat → (Nat → Int32) → Prop} {pc nx tg : Nat}
theorem so_newa {t : Nat} {at1 : ArrayType} {ty : FieldType} (ht : ∀ A : Nat → ClassId, (ac_tys A)[t]? = some (A t, ty)) (hty : newarray.typeOf at1 = ty) (hra : ∀ (U : State) (cA : ClassId), va_RA U cA ty → U.vm.findClass ("[" ++ ty.toString) = some cA) (hz : ∀ (D : va_G) (A : Nat → ClassId) (N q : Nat) (H1 : Heap), H1[q]? = some (arrV (A t) N (fun _ => defaultValue ty)) → va_at D vwCl (q, ac_em A (.inr (t, N, ac_zero t))) H1) (hcb : componentBytes ty ≤ 8) (hw : Cond.arrayClass ty ∈ ac_gw) (hd : decode M.2.2.1 pc = .ok (.newarray at1, 2)) (hn : pc + 2 = nx) : ac_So M scr pc (op_newa M.2.2.2.2.2.2 t nx) := by
  subst hn
  subst hty
  intro p l e s m args below meth c base D A Q G lv st ah k n h H locs ls hR hS hL
  obtain ⟨-, hx, hb, -, -, hown, hts, -, -, hK, hbs, -⟩ := G
  obtain ⟨mm, r, rfl, h0, w, h1, h2, h3, h4, h5⟩ := ac_i1v h
  refine va_newaK hx hb (hts _ hw) rfl hd rfl h0 rfl ?_ h3 (by omega) rfl (fun H1 cA e1 e2 e3 e4 e5 => ?_)
  · have : mm.toNatClampNeg * componentBytes (newarray.typeOf at1) ≤ 65536 * 8 := Nat.mul_le_mul (by omega) hcb
    omega
  · have ecA : cA = A t := Option.some.inj (e5.symm.trans (hra s (A t) (hK.1.2 t _ (ht A)).2))
    subst ecA
    obtain ⟨q1, q2, q3⟩ := ac_newR (.inr (t, mm.toNatClampNeg, ac_zero t)) hR hbs hS e2 e3 (hz D A _ _ _ e1)
    refine W.widen (k := k + 1) (n := n + w) (Nat.le_refl _) (by omega) ?_
    exact h5 H.size q1 H1 locs ls q2 q3 hL
theorem ac_ra_int (U : State) (cA : ClassId) (h : va_RA U cA .int) : U.vm.findClass ("[" ++ FieldType.int.toString) = some cA := h
theorem ac_ra_long (U : State) (cA : ClassId) (h : va_RA U cA .long) : U.vm.findClass ("[" ++ FieldType.long.toString) = some cA := h
theorem ac_ra_bool (U : State) (cA : ClassId) (h : va_RA U cA .boolean) : U.vm.findClass ("[" ++ FieldType.boolean.toString) = some cA := h
theorem so_newI (hw : Cond.arrayClass .int ∈ ac_gw) (hd : decode M.2.2.1 pc = .ok (.newarray .int, 2)) (hn : pc + 2 = nx) : ac_So M scr pc (op_newa M.2.2.2.2.2.2 0 nx) := so_newa (ty := .int) (fun _ => rfl) rfl ac_ra_int (fun _ _ _ _ _ h => h) (by decide) hw hd hn
theorem so_newZ (hw : Cond.arrayClass .boolean ∈ ac_gw) (hd : decode M.2.2.1 pc = .ok (.newarray .boolean, 2)) (hn : pc + 2 = nx) : ac_So M scr pc (op_newa M.2.2.2.2.2.2 1 nx) := so_newa (ty := .boolean) (fun _ => rfl) rfl ac_ra_bool (fun _ _ _ _ _ h => h) (by decide) hw hd hn
theorem so_newJ (hw : Cond.arrayClass .long ∈ ac_gw) (hd : decode M.2.2.1 pc = .ok (.newarray .long, 2)) (hn : pc + 2 = nx) : ac_So M scr pc (op_newa M.2.2.2.2.2.2 2 nx) := so_newa (ty := .long) (fun _ => rfl) rfl ac_ra_long (fun _ _ _ _ _ h => h) (by decide) hw hd hn
theorem so_newq {idx : Nat} (hd : decode M.2.2.1 pc = .ok (.anewarray idx, 3)) (hw : Cond.classLink M.1 idx "TypedHall$Item" ∈ ac_gw) (hn : pc + 3 = nx) : ac_So M scr pc (op_newa M.2.2.2.2.2.2 3 nx) := by
  subst hn
  intro p l e s m args below meth c base D A Q G lv st ah k n h H locs ls hR hS hL
  obtain ⟨-, hx, hb, -, -, hown, hts, -, -, hK, hbs, -⟩ := G
  obtain ⟨mm, r, rfl, h0, w, h1, h2, h3, h4, h5⟩ := ac_i1v h
  obtain ⟨ws, hP, hD, hin1, -⟩ := ac_fullR hR
  refine va_newq (D := D) hx hb hown (hts _ hw) hK.2.2.2.2.2.2.1 hK.1 hP hD hS (ac_newA hbs) h0 rfl (by omega) h3 (by omega) hd (fun q cA H1 hK1 hP1 hD1 hS1 => ?_)
  obtain ⟨kA, comp, -, -, -, e1⟩ := (hK1.2 5 (cA, .object "TypedHall$Item") rfl).2
  obtain ⟨kA2, comp2, -, -, -, e2⟩ := (hK.1.2 3 _ rfl).2
  have ecA : cA = A 3 := Option.some.inj (e1.symm.trans e2)
  subst ecA
  obtain ⟨q1, q2⟩ := ac_appR (.inr (3, mm.toNatClampNeg, ac_zero 3)) hin1 (ac_baseS hbs hS1) hD1 hP1
  refine W.widen (k := k + 1) (n := n + w) (Nat.le_refl _) (by omega) ?_
  exact h5 q q1 H1 locs ls q2 hS1 hL
theorem so_new {ci N idx : Nat} {C : String} {T : u_T} {ty : Nat → FieldType} (hc : vwCl[ci]? = some (C, T, N)) (hin : ∀ w ∈ u_ws C T N, w ∈ ac_gw) (hty : ∀ k, k < N → parseFieldDescriptor (T k).2.2.1 = some (ty k)) (hfs : ∀ j, j < N → defaultValue (ty j) = vp_V (ac_fr ci) j) (hnf : ac_nf ci = N) (hd : decode M.2.2.1 pc = .ok (.new idx, 3)) (hw : Cond.classLink M.1 idx C ∈ ac_gw) (hw2 : Cond.instantiable C N ∈ ac_gw) (hw3 : Cond.initialized C ∈ ac_gw) (hn : pc + 3 = nx) : ac_So M scr pc (op_new M.2.2.2.2.2.2 ci nx) := by
  subst hn
  intro p l e s m args below meth c base D A Q G lv st ah k n h H locs ls hR hS hL
  obtain ⟨-, hx, hb, -, -, hown, hts, -, -, hK, hbs, -⟩ := G
  obtain ⟨h3, h4, h5⟩ := h
  rw [hnf] at h4 h5
  obtain ⟨ws, hP, hD, hin1, -⟩ := ac_fullR hR
  refine va_new (D := D) hx hb hts hin ty hty hown (hts _ hw) (hts _ hw2) (hts _ hw3) hK.1 hP hD hS (ac_newA hbs) hc hfs h3 h4 hd (fun q H1 hP1 hD1 hS1 => ?_)
  obtain ⟨q1, q2⟩ := ac_appR (.inl (ci, ac_fr ci)) hin1 (ac_baseS hbs hS1) hD1 hP1
  exact h5 q q1 H1 locs ls q2 hS1 hL
theorem ac_itNc {cj ci : Nat} {r r2 : vw_C} (hj : cj = 4 ∨ cj = 5 ∨ cj = 6 ∨ cj = 7) (hi : ci = 4 ∨ ci = 5 ∨ ci = 6) (hne : cj ≠ ci) (h1 : vwCl[cj]? = some r) (h2 : vwCl[ci]? = some r2) : (r.1, r2.1) ∈ ac_nc := by
  rcases hj with rfl | rfl | rfl | rfl <;> rcases hi with rfl | rfl | rfl <;> first | exact absurd rfl hne | (cases h1; cases h2; decide +kernel)
theorem ac_item4 {ci : Nat} {X : Prop} (h : ac_item ci X) : (ci = 4 ∨ ci = 5 ∨ ci = 6 ∨ ci = 7) ∧ X := by
  match ci, h with
  | 4, h => exact ⟨Or.inl rfl, h⟩
  | 5, h => exact ⟨Or.inr (Or.inl rfl), h⟩
  | 6, h => exact ⟨Or.inr (Or.inr (Or.inl rfl)), h⟩
  | 7, h => exact ⟨Or.inr (Or.inr (Or.inr rfl)), h⟩
theorem so_inst {ci idx : Nat} {r2 : vw_C} (hi : ci = 4 ∨ ci = 5 ∨ ci = 6) (hc : vwCl[ci]? = some r2) (hd : decode M.2.2.1 pc = .ok (.instanceof idx, 3)) (hw : Cond.classLink M.1 idx r2.1 ∈ ac_gw) (hn : pc + 3 = nx) : ac_So M scr pc (op_inst ci nx) := by
  subst hn
  intro p l e s m args below meth c base D A Q G lv st ah k n h H locs ls hR hS hL
  obtain ⟨-, hx, hb, -, -, hown, hts, -, -, hK, hbs, -⟩ := G
  rcases ac_n1v h with ⟨r, rfl, h⟩ | ⟨a, r, rfl, cj, fs, h1, h2⟩
  · exact lv_instN hx hb hd (h H locs ls hR hS hL)
  · obtain ⟨ws, hP, hD, hin1, -⟩ := ac_fullR hR
    obtain ⟨q0, hq⟩ := hin1 a _ h1
    obtain ⟨⟨rc, hrc, -⟩, -⟩ := ac_itemv h2
    obtain ⟨hj, h3⟩ := ac_item4 h2
    have hrv := va_recv (D := D) hK.1 hP hrc hq
    by_cases hne : cj = ci
    · subst hne
      cases Option.some.inj (hrc.symm.trans hc)
      have h4 : cond (Nat.beq cj cj) _ _ := h3
      rw [Nat.beq_refl] at h4
      exact va_instS hx hb hown (hts _ hw) (hK.1.1 cj _ hc).2 hrv hd (h4 H locs ls hR hS hL)
    · have h4 : cond (Nat.beq cj ci) _ _ := h3
      have hbq : Nat.beq cj ci = false := by
        cases hz : Nat.beq cj ci with
        | false => rfl
        | true => exact absurd (Nat.eq_of_beq_eq_true hz) hne
      rw [hbq] at h4
      exact va_instNo hx hb hown (hts _ hw) (hK.2.2.2.2.1 _ (ac_itNc hj hi hne hrc hc)) hrv hd (h4 H locs ls hR hS hL)
theorem so_cast {ci idx : Nat} {r2 : vw_C} (hc : vwCl[ci]? = some r2) (hd : decode M.2.2.1 pc = .ok (.checkcast idx, 3)) (hw : Cond.classLink M.1 idx r2.1 ∈ ac_gw) (hn : pc + 3 = nx) : ac_So M scr pc (op_cast ci nx) := by
  subst hn
  intro p l e s m args below meth c base D A Q G lv st ah k n h H locs ls hR hS hL
  obtain ⟨-, hx, hb, -, -, hown, hts, -, -, hK, hbs, -⟩ := G
  rcases ac_n1v h with ⟨r, rfl, h⟩ | ⟨a, r, rfl, fs, h1, h2⟩
  · exact lv_castN hx hb hd (h H locs ls hR hS hL)
  · obtain ⟨ws, hP, hD, hin1, -⟩ := ac_fullR hR
    obtain ⟨q0, hq⟩ := hin1 a _ h1
    exact va_castS hx hb hown (hts _ hw) (hK.1.1 ci _ hc).2 (va_recv (D := D) hK.1 hP hc hq) hd (h2 H locs ls hR hS hL)
-- returns
theorem so_ireturn (hret : M.2.2.2.2.1 = some .int) (hd : decode M.2.2.1 pc = .ok (.ireturn, 1)) : ac_So M scr pc (op_ireturn M.2.2.2.2.2.2) := by
  intro p l e s m args below meth c base D A Q G lv st ah k n h H locs ls hR hS hL
  obtain ⟨-, hx, hb, -, hr, -, -, hlk, -⟩ := G
  obtain ⟨x, r, rfl, rfl, h1, h2, h3⟩ := ac_i1v h
  refine vx_ret (W.widen h2 h3 ?_)
  exact W.iret hx hb (hr.trans hret) (fun t ht hW => ⟨_, ah, rfl, h1, by rw [ht]; exact hR, hS.F ht⟩) hS.2.2 hd hlk
theorem so_zreturn (hret : M.2.2.2.2.1 = some .boolean) (hd : decode M.2.2.1 pc = .ok (.ireturn, 1)) : ac_So M scr pc (op_zreturn M.2.2.2.2.2.2) := by
  intro p l e s m args below meth c base D A Q G lv st ah k n h H locs ls hR hS hL
  obtain ⟨-, hx, hb, -, hr, -, -, hlk, -⟩ := G
  obtain ⟨x, r, rfl, rfl, h01, h1, h2, h3⟩ := ac_i1v h
  refine vx_ret (W.widen h2 h3 ?_)
  exact W.zret hx hb (hr.trans hret) (by rcases h01 with rfl | rfl <;> decide +kernel) (fun t ht hW => ⟨_, ah, rfl, h1, by rw [ht]; exact hR, hS.F ht⟩) hS.2.2 hd hlk
theorem so_lreturn (hret : M.2.2.2.2.1 = some .long) (hd : decode M.2.2.1 pc = .ok (.lreturn, 1)) : ac_So M scr pc (op_lreturn M.2.2.2.2.2.2) := by
  intro p l e s m args below meth c base D A Q G lv st ah k n h H locs ls hR hS hL
  obtain ⟨-, hx, hb, -, hr, -, -, hlk, -⟩ := G
  obtain ⟨x, r, rfl, rfl, h1, h2, h3⟩ := ac_l1v h
  refine vx_ret (W.widen h2 h3 ?_)
  exact W.lret hx hb (hr.trans hret) (fun t ht hW => ⟨_, ah, rfl, h1, by rw [ht]; exact hR, hS.F ht⟩) hS.2.2 hd hlk
theorem so_areturn {rt : FieldType} (hret : M.2.2.2.2.1 = some rt) (hrt : (∃ n, rt = .object n) ∨ ∃ t, rt = .array t) (hd : decode M.2.2.1 pc = .ok (.areturn, 1)) : ac_So M scr pc (op_areturn M.2.2.2.2.2.2) := by
  intro p l e s m args below meth c base D A Q G lv st ah k n h H locs ls hR hS hL
  obtain ⟨-, hx, hb, -, hr, -, -, hlk, -⟩ := G
  rcases ac_n1v h with ⟨r, rfl, rfl, h1, h2, h3⟩ | ⟨x, r, rfl, rfl, h1, h2, h3⟩
  · refine vx_ret (W.widen h2 h3 ?_)
    exact W.aret hx hb (hr.trans hret) hrt (Or.inl rfl) (fun t ht hW => ⟨_, ah, rfl, h1, by rw [ht]; exact hR, hS.F ht⟩) hS.2.2 hd hlk
  · refine vx_ret (W.widen h2 h3 ?_)
    exact W.aret hx hb (hr.trans hret) hrt (Or.inr ⟨x, rfl⟩) (fun t ht hW => ⟨_, ah, rfl, h1, by rw [ht]; exact hR, hS.F ht⟩) hS.2.2 hd hlk
theorem so_return (hret : M.2.2.2.2.1 = none) (hd : decode M.2.2.1 pc = .ok (.return_, 1)) : ac_So M scr pc (op_return M.2.2.2.2.2.2) := by
  intro p l e s m args below meth c base D A Q G lv st ah k n h H locs ls hR hS hL
  obtain ⟨-, hx, hb, -, hr, -, -, hlk, -⟩ := G
  obtain ⟨rfl, h1, h2, h3⟩ := h
  refine vx_ret (W.widen h2 h3 ?_)
  exact W.vret hx hb (hr.trans hret) (fun t ht hW => ⟨_, ah, rfl, h1, by rw [ht]; exact hR, hS.F ht⟩) hS.2.2 hd hlk
end ACW
end
section
/-! ===== contracts, calls ===== -/
def ac_cd (y : MethodName) (M : ac_D) : Cond := match M.2.2.2.2.2.1 with
  | [] => .code y M.2.2.1 M.2.2.2.1 M.2.2.2.2.1
  | hh => .codeWith y M.2.2.1 M.2.2.2.1 M.2.2.2.2.1 hh
def ac_ws (y : MethodName) (M : ac_D) : List Cond := ac_cd y M :: ac_gw
/-- the contract: what T asks is enough on the machine -/
def ac_Ct (y : MethodName) (M : ac_D) (T : ac_T) : Prop := ∀ (l : Launch) (base : Nat) (D : va_G) (A : Nat → ClassId) (as : List Value) (ah : ac_H) (Q : ac_Q), l.stackTraces = false → T as ah Q →
  vx_Met l y (ac_ws y M) M.2.2.2.2.2.2 (va_Pc as (fun U => ac_Rep base D A ah U.heap ∧ ac_KN base D A U U.heap ∧ base ≤ U.heap.size)) (ac_Qc base D A Q) (ac_XC base D A Q) M.2.2.2.2.2.2.cells M.2.2.2.2.2.2.slots (ac_B base)
theorem ac_gw_good {w : Cond} (h : w ∈ ac_gw) : goodWord w = true := (List.mem_filter.mp h).2
theorem ac_gwG : GoodIn ac_gw ac_gw := fun w h => ⟨h, good_of_word (ac_gw_good h)⟩
theorem ac_wsG {y : MethodName} {M : ac_D} (h : ac_cd y M ∈ ac_gw) : GoodIn ac_gw (ac_ws y M) := fun w hw => by
  rcases List.mem_cons.mp hw with rfl | hw
  · exact ac_gwG _ h
  · exact ac_gwG _ hw
theorem ac_ng_on {w : Cond} (h : w ∈ ac_ng) : w.onTables = true := by
  have h1 := (List.mem_filter.mp h).2
  cases w <;> first | rfl | (simp [ac_ngw] at h1)
theorem ac_ng_warm {w : Cond} {s U : State} (h : w ∈ ac_ng) (hW : s.WarmedH U.vm) (hw : va_Nw w s) : va_Nw w U := by
  have h1 := (List.mem_filter.mp h).2
  cases w with
  | fieldLinkNest => exact va_Nw.warmF hW hw
  | methodLinkNest => exact va_Nw.warmM hW hw
  | declares => exact va_Nw.warmD hW hw
  | castable => exact va_Nw.warmC hW hw
  | _ => simp [ac_ngw] at h1
theorem ac_KN.moved {base : Nat} {D : va_G} {A : Nat → ClassId} {s U : State} {H H1 : Heap} (hW : s.WarmedH U.vm) (hq : ∀ q : Nat, q < H.size → ¬ ac_B base q → H1[q]? = H[q]?) (hb : base ≤ H.size) (h : ac_KN base D A s H) : ac_KN base D A U H1 := by
  obtain ⟨h1, h2, h3, ⟨zn, z1, z2, z3⟩, h5, h6, h7, h8⟩ := h
  refine ⟨va_K.moved hW.alike h1, (h2.moved hW.alike).kept hq, (h3.moved hW.alike).kept hq, ⟨zn, (z1.moved hW.alike).kept hq, (va_X.moved hW.alike z2).kept (hq zn (Nat.lt_of_lt_of_le z3 hb) (fun z => absurd z (Nat.not_le.mpr z3))), z3⟩, fun q hq => (h5 q hq).moved hW.alike, fun w hw => ac_ng_warm hw hW (h6 w hw), h7.moved hW.alike, h8.moved hW.alike⟩
theorem ac_popv : ∀ {i : Nat} {st acc : List Value} {K : List Value → List Value → Prop}, ac_pop i st acc K → ∃ as r, st = as ++ r ∧ as.length = i ∧ K (as.reverse ++ acc) r
  | 0, st, acc, K, h => by
    have h : K acc st := by cases st <;> exact h
    exact ⟨[], st, rfl, rfl, h⟩
  | i + 1, [], acc, K, h => False.elim h
  | i + 1, v :: st, acc, K, h => by
    obtain ⟨as, r, e1, e2, e3⟩ := ac_popv (i := i) (st := st) (acc := v :: acc) h
    exact ⟨v :: as, r, by rw [e1]; rfl, by simp [e2], by simpa using e3⟩
/-- n values off the stack, in the order of the parameters -/
theorem ac_popw {i : Nat} {st : List Value} {K : List Value → List Value → Prop} (h : ac_pop i st [] K) : ∃ as r, st = as.reverse ++ r ∧ as.length = i ∧ K as r := by
  obtain ⟨as, r, e1, e2, e3⟩ := ac_popv h
  exact ⟨as.reverse, r, by rw [List.reverse_reverse]; exact e1, by rw [List.length_reverse]; exact e2, by simpa using e3⟩
theorem ac_cat (v : Value) : v.category ≤ 2 := by rcases lv_cat v with h | h <;> omega
theorem ac_room : ∀ {r : List Value}, r.length ≤ 4 → (r.map fun v => v.category).sum ≤ 8 := by
  intro r h
  have key : ∀ r : List Value, (r.map fun v => v.category).sum ≤ 2 * r.length := by
    intro r
    induction r with
    | nil => simp
    | cons a t ih =>
      have := ac_cat a
      simp only [List.map_cons, List.sum_cons, List.length_cons]
      omega
  have := key r
  omega
section ACR
variable {p : Program} {l : Launch} {e : Env} {s : State} {m : MethodId} {args : Array Value} {below : List Frame} {meth : Method} {c : Code} {H : Heap} {locs : List Loc} {k n : Nat} {QQ : State → Prop} {M : ac_D} {scr : Nat → Nat → (Nat → Int32) → Prop}
variable {base : Nat} {D : va_G} {A : Nat → ClassId} {Q : ac_Q} {R : Room} {pc nx mc ms : Nat} {ls : Array Slot} {st rest : List Value} {a : Array Value}
theorem ac_frS {H1 : Heap} {L : List Loc} {st₀ t T' : State} (hS : va_S (ac_B base) s.heap H locs) (h0 : st₀.heap = H) (e1 : T'.heap = t.heap) (hL : ∀ q ∈ L, ac_B base q.base) (hF : va_F (ac_B base) st₀ t) : va_S (ac_B base) s.heap T'.heap (locs ++ L) := by
  obtain ⟨f1, f2⟩ := hF
  rw [h0] at f1 f2
  refine ⟨by rw [e1]; exact Nat.le_trans hS.1 f1, fun q h1 h2 => by rw [e1, f2 q (Nat.lt_of_lt_of_le h1 hS.1) h2]; exact hS.2.1 q h1 h2, fun z hz => ?_⟩
  rcases List.mem_append.mp hz with h | h
  · exact hS.2.2 z h
  · exact hL z h
/-- behind a call -/
theorem ac_run {Qn : ac_Q} (hr : vx_Run p l e R s m args below meth c H locs k n mc ms (F0 m pc ls st) rest (ac_Qc base D A Qn a) (ac_XC base D A Qn) (ac_B base)) (hS : va_S (ac_B base) s.heap H locs)
    (kret : ∀ (v : Option Value) (ah : ac_H) (H1 : Heap) (locs1 : List Loc), Qn (.inl v) ah → ac_Rep base D A ah H1 → va_S (ac_B base) s.heap H1 locs1 → W p l e R s m args below meth c H1 locs1 (k + mc) (n + ms) QQ (F0 m (pc + 3) ls (v.toList ++ rest)))
    (kthr : ∀ (x : Nat) (ah : ac_H) (H1 : Heap) (locs1 : List Loc) (ce : Cell) (q : Addr), Qn (.inr x) ah → ac_Rep base D A ah H1 → va_S (ac_B base) s.heap H1 locs1 → H1[q]? = some ce → ce.vm = .none → s.vm.findClass (ac_xn x) = some ce.cls → vx_W p l e R s m args below meth c H1 locs1 (k + mc) (n + ms) QQ (F0 m pc ls rest) q) :
    W p l e R s m args below meth c H locs k n QQ (F0 m pc ls st) := by
  intro T hT X
  rcases hr T hT X with ⟨v, st₀, t, T', L, h0, X', hL, e1, e2, ⟨v', ah, hv, hQ, hR, hF⟩, sg⟩ | ⟨q, st₀, t, T', L, E, ce, h0, X', hL, e1, e2, ⟨x, ah, hxE, hQ, hR, hF⟩, hce, hcv, hcl, sg⟩
  · cases hv
    obtain ⟨t2, a1, b1⟩ := kret v ah T'.heap (locs ++ L) hQ (by rw [e1]; exact hR) (ac_frS (H1 := H) hS h0 e1 hL hF) T' rfl X'
    exact ⟨t2, sg t2 a1, b1⟩
  · subst hxE
    obtain ⟨t2, a1, b1⟩ := kthr x ah T'.heap (locs ++ L) ce q hQ (by rw [e1]; exact hR) (ac_frS (H1 := H) hS h0 e1 hL hF) (by rw [e1]; exact hce) hcv hcl T' rfl X'
    exact ⟨t2, sg.trans a1, b1⟩
theorem ac_ncF : ∀ x : Fin 7, ∀ y : Fin 7, x = y ∨ (ac_xn x.val, ac_xn y.val) ∈ ac_nc := by decide +kernel
theorem ac_ncx (x : Nat) (hx : x < 7) (y : Nat) (hy : y < 7) (h : x ≠ y) : (ac_xn x, ac_xn y) ∈ ac_nc := (ac_ncF ⟨x, hx⟩ ⟨y, hy⟩).resolve_left (fun q => h (congrArg Fin.val q))
theorem ac_cax : ∀ x, x < 7 → Cond.castable (ac_xn x) (ac_xn x) ∈ ac_ng := by decide +kernel
/-- the rows of a table that are the law's -/
def ac_tb (own : String) (hh : List (Nat × Nat × Nat × Nat)) : Prop := ∀ q ∈ hh, q.2.2.2 ≠ 0 ∧ ac_cx q.2.2.2 < 7 ∧ Cond.classLink own q.2.2.2 (ac_xn (ac_cx q.2.2.2)) ∈ ac_gw
theorem ac_fndv {hh : List (Nat × Nat × Nat × Nat)} {x : Nat} : match ac_fnd hh pc x with
    | none => ∀ q ∈ hh, (¬ (q.1 ≤ pc ∧ pc < q.2.1)) ∨ ac_cx q.2.2.2 ≠ x
    | some t => ∃ pre q suf, hh = pre ++ q :: suf ∧ q.2.2.1 = t ∧ (q.1 ≤ pc ∧ pc < q.2.1) ∧ ac_cx q.2.2.2 = x ∧ ∀ z ∈ pre, (¬ (z.1 ≤ pc ∧ pc < z.2.1)) ∨ ac_cx z.2.2.2 ≠ x := by
  induction hh with
  | nil => intro q hq; cases hq
  | cons q r ih =>
    by_cases hc : (Nat.ble q.1 pc && (Nat.ble (pc + 1) q.2.1 && Nat.beq (ac_cx q.2.2.2) x)) = true
    · have e : ac_fnd (q :: r) pc x = some q.2.2.1 := by show cond _ _ _ = _; rw [hc]; rfl
      rw [e]
      simp only [Bool.and_eq_true, Nat.ble_eq, Nat.beq_eq] at hc
      exact ⟨[], q, r, rfl, rfl, ⟨hc.1, hc.2.1⟩, hc.2.2, fun z hz => by cases hz⟩
    · have e : ac_fnd (q :: r) pc x = ac_fnd r pc x := by
        show cond _ _ _ = _
        rw [Bool.eq_false_iff.mpr hc]; rfl
      have hq : (¬ (q.1 ≤ pc ∧ pc < q.2.1)) ∨ ac_cx q.2.2.2 ≠ x := by
        simp only [Bool.and_eq_true, Nat.ble_eq, Nat.beq_eq] at hc
        by_cases h1 : q.1 ≤ pc ∧ pc < q.2.1
        · exact Or.inr fun h2 => hc ⟨h1.1, h1.2, h2⟩
        · exact Or.inl h1
      rw [e]
      cases hf : ac_fnd r pc x with
      | none =>
        rw [hf] at ih
        intro z hz
        rcases List.mem_cons.mp hz with rfl | hz
        · exact hq
        · exact ih z hz
      | some t =>
        rw [hf] at ih
        obtain ⟨pre, z, suf, e1, e2, e3, e4, e5⟩ := ih
        refine ⟨q :: pre, z, suf, by rw [e1]; rfl, e2, e3, e4, fun w hw => ?_⟩
        rcases List.mem_cons.mp hw with rfl | hw
        · exact hq
        · exact e5 w hw
theorem ac_cov {q : Nat × Nat × Nat × Nat} : covers (⟨q.1, q.2.1, q.2.2.1, q.2.2.2⟩ : ExceptionTableEntry) pc = true ↔ (q.1 ≤ pc ∧ pc < q.2.1) := by simp [covers]
/-- what the continuation of a call asks is enough -/
theorem ac_kov {ah : ac_H} {lv : ac_V} {x : Nat} {locs1 : List Loc} {H1 : Heap} {ce : Cell} {q : Addr} (G : ac_G l p s m args meth c M base D A scr) (htb : ac_tb M.1 M.2.2.2.2.2.1) (hk : k ≤ M.2.2.2.2.2.2.cells) (hn : n ≤ M.2.2.2.2.2.2.slots) (hL : ac_L ls M.2.2.2.1 lv)
    (h : ac_ko M.2.2.2.2.2.1 pc nx (ac_W p l e s m args below meth c M.2.2.2.1 M.2.2.2.2.2.2 base D A Q) Q lv rest k n (.inr x) ah) (hR : ac_Rep base D A ah H1) (hS : va_S (ac_B base) s.heap H1 locs1) (hce : H1[q]? = some ce) (hcv : ce.vm = .none) (hcl : s.vm.findClass (ac_xn x) = some ce.cls) :
    vx_W p l e M.2.2.2.2.2.2 s m args below meth c H1 locs1 k n (vx_MQ below (ac_Qc base D A Q) (ac_XC base D A Q) args s M.2.2.2.2.2.2.cells M.2.2.2.2.2.2.slots (ac_B base)) (F0 m pc ls rest) q := by
  obtain ⟨hl, hx, hb, hml, hr, hown, hts, hlk, htab, hK, hbs, hmn, hsc⟩ := G
  obtain ⟨hx7, h⟩ := h
  have hf := ac_fndv (pc := pc) (hh := M.2.2.2.2.2.1) (x := x)
  have hpass : ∀ z ∈ M.2.2.2.2.2.1, ((¬ (z.1 ≤ pc ∧ pc < z.2.1)) ∨ ac_cx z.2.2.2 ≠ x) → covers (⟨z.1, z.2.1, z.2.2.1, z.2.2.2⟩ : ExceptionTableEntry) pc = false ∨ (z.2.2.2 ≠ 0 ∧ ∃ nm : String, (Cond.classLink M.1 z.2.2.2 nm).before args s = true ∧ va_Nc (ac_xn x) nm s) := by
    intro z hz h1
    rcases h1 with h1 | h1
    · refine Or.inl ?_
      cases hc : covers (⟨z.1, z.2.1, z.2.2.1, z.2.2.2⟩ : ExceptionTableEntry) pc with
      | false => rfl
      | true => exact absurd (ac_cov.mp hc) h1
    · obtain ⟨t1, t2, t3⟩ := htb z hz
      exact Or.inr ⟨t1, _, hts _ t3, hK.2.2.2.2.1 _ (ac_ncx x hx7 _ t2 (Ne.symm h1))⟩
  cases hfx : ac_fnd M.2.2.2.2.2.1 pc x with
  | none =>
    rw [hfx] at hf h
    refine vx_outP hown hlk (fun z hz => ?_) hce hcv hcl (fun t ht hvm => ⟨x, ah, rfl, h, by rw [ht]; exact hR, hS.F ht⟩) hS.2.2 hk hn
    rw [htab] at hz
    obtain ⟨z0, hz0, rfl⟩ := List.mem_map.mp hz
    exact hpass z0 hz0 (hf z0 hz0)
  | some t =>
    rw [hfx] at hf h
    obtain ⟨pre, z, suf, e1, e2, e3, e4, e5⟩ := hf
    have hzin : z ∈ M.2.2.2.2.2.1 := by rw [e1]; simp
    obtain ⟨t1, t2, t3⟩ := htb z hzin
    rw [e4] at t3
    refine vx_catch hown (pre.map fun q => ⟨q.1, q.2.1, q.2.2.1, q.2.2.2⟩) ⟨z.1, z.2.1, z.2.2.1, z.2.2.2⟩ (suf.map fun q => ⟨q.1, q.2.1, q.2.2.1, q.2.2.2⟩) (by rw [htab, e1]; simp [tableOf]) (fun w hw => ?_) (ac_cov.mpr e3) t1 (hts _ t3) (va_Nw.use rfl (hK.2.2.2.2.2.1 _ (ac_cax x hx7))) hce hcv hcl ?_
    · obtain ⟨w0, hw0, rfl⟩ := List.mem_map.mp hw
      exact hpass w0 (by rw [e1]; simp [hw0]) (e5 w0 hw0)
    · have h : ∀ a : Nat, _ := h
      show W p l e _ s m args below meth c H1 locs1 k n _ (F0 m z.2.2.1 ls [.ref q])
      rw [e2]
      exact h q H1 locs1 ls hR hS hL
end ACR
end
section
/-! ===== the calls' rows ===== -/
section ACX
variable {p : Program} {l : Launch} {e : Env} {R : Room} {s : State} {m : MethodId} {args : Array Value} {below : List Frame} {meth : Method} {c : Code} {H : Heap} {locs : List Loc} {k n : Nat} {pc mc ms : Nat} {ls : Array Slot} {st rest av : List Value} {y : MethodName} {Pc : Array Value → State → Prop} {Qc : Array Value → State → Outcome → State → Prop} {XC : String → State → State → Prop} {free : Addr → Prop} {ig : Instr}
/-- a call, out of the invoking instruction's own step -/
theorem ac_mkRun (hK : vx_Back l R p e below s args y 3 8 (PreOf R mc ms Pc) (PostOf Qc mc ms free) (vx_Post XC mc ms free)) (hsize : ls.size = c.maxLocals) (hW : (rest.map fun v => v.category).sum ≤ 8) (hdg : decode c.code pc = .ok (ig, 3)) (hf : k + mc ≤ R.cells ∧ n + ms ≤ R.slots) (hPc : ∀ U : State, U.heap = H → s.WarmedH U.vm → Pc av.toArray U)
    (hstep : ∀ T : State, T.heap = H → Stand p l e R s m args below meth c T locs k n → ∃ (mk : MethodId) (vm₁ : Vm), s.WarmedH vm₁ ∧ s.methodNamed? y = some mk ∧ ∀ target, (∀ acts, Steps p.tables e below (doInvoke e ((T.setVm vm₁).setTop (F0 m pc ls rest)) acts mk av.toArray).1 target) → Steps p.tables e below (T.setTop (F0 m pc ls st)) target) :
    vx_Run p l e R s m args below meth c H locs k n mc ms (F0 m pc ls st) rest (Qc av.toArray) XC free := by
  intro T hT X
  obtain ⟨mk, vm₁, hW₁, hnamed, hstep₁⟩ := hstep T hT X
  have X₁ := X.noted hW₁
  rcases hK m meth c ⟨T.setVm vm₁, locs, k, n⟩ (F0 m pc ls rest) ig mk av.toArray X₁ rfl hsize hdg (lv_room hW) (X₁.named hnamed) ⟨hf.1, hf.2, hPc (T.setVm vm₁) hT hW₁⟩ with ⟨v, ⟨U', l2, c2, s2⟩, X', ⟨g', mk', t, L, e1, e2, hq, h1, hL, h2, h3⟩, hsteps⟩ | ⟨q, ⟨U', l2, c2, s2⟩, X', ⟨g', mk', t, L, E, ce, e1, e2, hq, hce, hcv, hcl, h1, hL, h2, h3⟩, hsteps⟩
  · dsimp only [Pt.U, Pt.locs, Pt.cells, Pt.slots] at X' e1 e2 h1 h2 h3 hsteps
    subst h1; subst h2; subst h3
    exact Or.inl ⟨v, (T.setVm vm₁).calling g' mk' av.toArray, t, U', L, hT, X', hL, e1, e2, hq, fun target h => hstep₁ _ fun acts => by rw [doInvoke_state]; exact hsteps.trans h⟩
  · dsimp only [Pt.U, Pt.locs, Pt.cells, Pt.slots] at X' e1 e2 h1 h2 h3 hsteps hcl
    subst h1; subst h2; subst h3
    exact Or.inr ⟨q, (T.setVm vm₁).calling g' mk' av.toArray, t, U', L, E, ce, hT, X', hL, e1, e2, hq, hce, hcv, vx_cls hW₁ hcl, hstep₁ _ fun acts => by rw [doInvoke_state]; exact hsteps⟩
end ACX
section ACY
variable {M N : ac_D} {scr : Nat → Nat → (Nat → Int32) → Prop} {pc nx na idx : Nat} {y : MethodName} {T : ac_T}
/-- what the tables say of a callee -/
def ac_cal (M N : ac_D) (y : MethodName) (na : Nat) : Prop := ac_cd y N ∈ ac_gw ∧ Cond.initialized y.cls ∈ ac_gw ∧ (y.cls ≠ "java/lang/invoke/MethodHandle" ∧ y.cls ≠ "java/lang/invoke/VarHandle" ∧ (parseMethodDescriptor y.desc).map (fun d => d.parameters.length) = some na) ∧ (N.2.2.2.2.2.2.frames + 1 ≤ M.2.2.2.2.2.2.frames ∧ 8 + (N.2.2.2.1 + 11) + N.2.2.2.2.2.2.locals ≤ M.2.2.2.2.2.2.locals) ∧ ac_tb M.1 M.2.2.2.2.2.1
theorem ac_len {y : MethodName} {na : Nat} (h : (parseMethodDescriptor y.desc).map (fun d => d.parameters.length) = some na) : ∀ sig, parseMethodDescriptor y.desc = some sig → na = sig.parameters.length := fun sig hs => by
  rw [hs] at h
  exact (Option.some.inj h).symm
theorem ac_blind {base : Nat} {D : va_G} {A : Nat → ClassId} {as : List Value} {ah : ac_H} : FrameBlind (va_Pc as (fun U => ac_Rep base D A ah U.heap ∧ ac_KN base D A U U.heap ∧ base ≤ U.heap.size)) := by
  intro a U g mk h
  obtain ⟨h1, h2, h3, h4⟩ := h
  exact ⟨h1, h2, ac_KN.moved (s := U) (U := U.calling g mk a) (H := U.heap) (State.WarmedH.refl U) (fun _ _ _ => rfl) h4 h3, h4⟩
theorem ac_backN {p : Program} {l : Launch} {e : Env} {s : State} {args : Array Value} {below : List Frame} {base : Nat} {D : va_G} {A : Nat → ClassId} {as : List Value} {ah : ac_H} {Q : ac_Q} (hw : ac_ws y N = Cond.code y N.2.2.1 N.2.2.2.1 N.2.2.2.2.1 :: ac_gw) (hc : ac_cal M N y na) (hts : ∀ w ∈ ac_gw, w.before args s = true)
    (hM : vx_Met l y (ac_ws y N) N.2.2.2.2.2.2 (va_Pc as (fun U => ac_Rep base D A ah U.heap ∧ ac_KN base D A U U.heap ∧ base ≤ U.heap.size)) (ac_Qc base D A Q) (ac_XC base D A Q) N.2.2.2.2.2.2.cells N.2.2.2.2.2.2.slots (ac_B base)) :
    vx_Back l M.2.2.2.2.2.2 p e below s args y 3 8 (PreOf M.2.2.2.2.2.2 N.2.2.2.2.2.2.cells N.2.2.2.2.2.2.slots (va_Pc as (fun U => ac_Rep base D A ah U.heap ∧ ac_KN base D A U U.heap ∧ base ≤ U.heap.size))) (PostOf (ac_Qc base D A Q) N.2.2.2.2.2.2.cells N.2.2.2.2.2.2.slots (ac_B base)) (vx_Post (ac_XC base D A Q) N.2.2.2.2.2.2.cells N.2.2.2.2.2.2.slots (ac_B base)) := by
  obtain ⟨h1, h2, h3, h4, h5⟩ := hc
  exact vx_back (bytes := N.2.2.1) (maxL := N.2.2.2.1) (ret := N.2.2.2.2.1) hM ac_blind rfl rfl h4.1 h4.2 (fun w hw' a' U hW => word_at hW (ac_wsG h1 w hw').2 (hts _ (ac_wsG h1 w hw').1)) (by rw [hw]; exact List.mem_cons_self) (fun a' U hW => word_at hW (ac_gwG _ h2).2 (hts _ h2))
theorem ac_backX {p : Program} {l : Launch} {e : Env} {s : State} {args : Array Value} {below : List Frame} {base : Nat} {D : va_G} {A : Nat → ClassId} {as : List Value} {ah : ac_H} {Q : ac_Q} (hw : ac_ws y N = Cond.codeWith y N.2.2.1 N.2.2.2.1 N.2.2.2.2.1 N.2.2.2.2.2.1 :: ac_gw) (hc : ac_cal M N y na) (hts : ∀ w ∈ ac_gw, w.before args s = true)
    (hM : vx_Met l y (ac_ws y N) N.2.2.2.2.2.2 (va_Pc as (fun U => ac_Rep base D A ah U.heap ∧ ac_KN base D A U U.heap ∧ base ≤ U.heap.size)) (ac_Qc base D A Q) (ac_XC base D A Q) N.2.2.2.2.2.2.cells N.2.2.2.2.2.2.slots (ac_B base)) :
    vx_Back l M.2.2.2.2.2.2 p e below s args y 3 8 (PreOf M.2.2.2.2.2.2 N.2.2.2.2.2.2.cells N.2.2.2.2.2.2.slots (va_Pc as (fun U => ac_Rep base D A ah U.heap ∧ ac_KN base D A U U.heap ∧ base ≤ U.heap.size))) (PostOf (ac_Qc base D A Q) N.2.2.2.2.2.2.cells N.2.2.2.2.2.2.slots (ac_B base)) (vx_Post (ac_XC base D A Q) N.2.2.2.2.2.2.cells N.2.2.2.2.2.2.slots (ac_B base)) := by
  obtain ⟨h1, h2, h3, h4, h5⟩ := hc
  exact vx_backW (bytes := N.2.2.1) (maxL := N.2.2.2.1) (ret := N.2.2.2.2.1) (hh := N.2.2.2.2.2.1) hM ac_blind rfl rfl h4.1 h4.2 (fun w hw' a' U hW => word_at hW (ac_wsG h1 w hw').2 (hts _ (ac_wsG h1 w hw').1)) (by rw [hw]; exact List.mem_cons_self) (fun a' U hW => word_at hW (ac_gwG _ h2).2 (hts _ h2))
/-- behind the call: the continuation -/
theorem ac_done {p : Program} {l : Launch} {e : Env} {s : State} {m : MethodId} {args : Array Value} {below : List Frame} {meth : Method} {c : Code} {base : Nat} {D : va_G} {A : Nat → ClassId} {Q : ac_Q} {lv : ac_V} {st r : List Value} {k n : Nat} {H : Heap} {locs : List Loc} {ls : Array Slot} {rc : Room} {a : Array Value}
    (G : ac_G l p s m args meth c M base D A scr) (htb : ac_tb M.1 M.2.2.2.2.2.1) (hk : k + rc.cells ≤ M.2.2.2.2.2.2.cells) (hn : n + rc.slots ≤ M.2.2.2.2.2.2.slots) (hL : ac_L ls M.2.2.2.1 lv) (hS : va_S (ac_B base) s.heap H locs)
    (hr : vx_Run p l e M.2.2.2.2.2.2 s m args below meth c H locs k n rc.cells rc.slots (F0 m pc ls st) r (ac_Qc base D A (ac_ko M.2.2.2.2.2.1 pc (pc + 3) (ac_W p l e s m args below meth c M.2.2.2.1 M.2.2.2.2.2.2 base D A Q) Q lv r (k + rc.cells) (n + rc.slots)) a) (ac_XC base D A (ac_ko M.2.2.2.2.2.1 pc (pc + 3) (ac_W p l e s m args below meth c M.2.2.2.1 M.2.2.2.2.2.2 base D A Q) Q lv r (k + rc.cells) (n + rc.slots))) (ac_B base)) :
    W p l e M.2.2.2.2.2.2 s m args below meth c H locs k n (vx_MQ below (ac_Qc base D A Q) (ac_XC base D A Q) args s M.2.2.2.2.2.2.cells M.2.2.2.2.2.2.slots (ac_B base)) (F0 m pc ls st) := by
  refine ac_run hr hS (fun v ah' H1 locs1 hq hR1 hS1 => ?_) (fun x ah' H1 locs1 ce q hq hR1 hS1 e1 e2 e3 => ac_kov G htb hk hn hL hq hR1 hS1 e1 e2 e3)
  cases v with
  | none => exact hq H1 locs1 ls hR1 hS1 hL
  | some v => exact hq H1 locs1 ls hR1 hS1 hL
theorem ac_pcU {s : State} {base : Nat} {D : va_G} {A : Nat → ClassId} {as : List Value} {ah : ac_H} {H : Heap} {locs : List Loc} (hbs : base ≤ s.heap.size) (hK : ac_KN base D A s s.heap) (hR : ac_Rep base D A ah H) (hS : va_S (ac_B base) s.heap H locs) : ∀ U : State, U.heap = H → s.WarmedH U.vm → va_Pc as (fun U => ac_Rep base D A ah U.heap ∧ ac_KN base D A U U.heap ∧ base ≤ U.heap.size) as.toArray U := by
  intro U hU hW
  refine ⟨rfl, by rw [hU]; exact hR, ?_, by rw [hU]; exact hR.1⟩
  rw [hU]
  exact ac_KN.moved hW (fun q h1 h2 => hS.2.1 q h1 h2) hbs hK
theorem so_callS (hC : ac_Ct y N T) (hw : ac_ws y N = Cond.code y N.2.2.1 N.2.2.2.1 N.2.2.2.2.1 :: ac_gw) (hc : ac_cal M N y na) (hd : decode M.2.2.1 pc = .ok (.invokestatic idx, 3)) (hl : Cond.methodLink M.1 idx y ∈ ac_gw) (hst : Cond.static y ∈ ac_gw) (hn : pc + 3 = nx) : ac_So M scr pc (op_callS M.2.2.2.2.2.2 M.2.2.2.2.2.1 T N.2.2.2.2.2.2 na pc nx) := by
  subst hn
  intro p l e s m args below meth c base D A Q G lv st ah k n h H locs ls hR hS hL
  obtain ⟨hlt, hx, hb, hml, hr, hown, hts, hlk, htab, hK, hbs, hmn, hsc⟩ := id G
  obtain ⟨as, r, rfl, hlen, h4, h5, h6, h7⟩ := ac_popw h
  have hM := hC l base D A as ah _ hlt h7
  refine ac_done G hc.2.2.2.2 h5 h6 hL hS (ac_mkRun (av := as) (ac_backN hw hc hts hM) (hL.1.trans hml.symm) (ac_room h4) (by rw [hb]; exact hd) ⟨h5, h6⟩ (ac_pcU hbs hK hR hS) (fun T' hT X => ?_))
  obtain ⟨mk, hnamed⟩ := Cond.code_named (hts _ (by have := hc.1; have e := List.cons.inj hw; rw [← e.1]; exact this))
  obtain ⟨methM, cM, hmethM, hcodeM', -, hlocalsM, -, -, -, hsigM⟩ := Cond.code_spec hnamed (hts _ (by have := hc.1; have e := List.cons.inj hw; rw [← e.1]; exact this))
  have hstatic : methM.isStatic = true := Cond.static_spec hnamed hmethM (hts _ hst)
  obtain ⟨kP, hkP, -⟩ := className_of_methodNamed hnamed
  have hinitP : kP.init = .initialized := Cond.initialized_spec (findClass_of_methodNamed hnamed) hkP (hts _ hc.2.1)
  obtain ⟨vm₁, X₁, hstep₁⟩ := X.invokestatic hx hown (hts _ hl) hnamed hmethM hstatic hkP hinitP ⟨hc.2.2.1.1, hc.2.2.1.2.1⟩ (g := F0 m pc ls (as.reverse ++ r)) rfl (argsL := as) (rest := r) (hlen.trans (ac_len hc.2.2.1.2.2 _ hsigM)) rfl (by rw [hb]; exact hd)
  exact ⟨mk, vm₁, X₁.warmed, hnamed, hstep₁⟩
theorem so_callSX (hC : ac_Ct y N T) (hw : ac_ws y N = Cond.codeWith y N.2.2.1 N.2.2.2.1 N.2.2.2.2.1 N.2.2.2.2.2.1 :: ac_gw) (hc : ac_cal M N y na) (hd : decode M.2.2.1 pc = .ok (.invokestatic idx, 3)) (hl : Cond.methodLink M.1 idx y ∈ ac_gw) (hst : Cond.static y ∈ ac_gw) (hn : pc + 3 = nx) : ac_So M scr pc (op_callS M.2.2.2.2.2.2 M.2.2.2.2.2.1 T N.2.2.2.2.2.2 na pc nx) := by
  subst hn
  intro p l e s m args below meth c base D A Q G lv st ah k n h H locs ls hR hS hL
  obtain ⟨hlt, hx, hb, hml, hr, hown, hts, hlk, htab, hK, hbs, hmn, hsc⟩ := id G
  obtain ⟨as, r, rfl, hlen, h4, h5, h6, h7⟩ := ac_popw h
  have hM := hC l base D A as ah _ hlt h7
  refine ac_done G hc.2.2.2.2 h5 h6 hL hS (ac_mkRun (av := as) (ac_backX hw hc hts hM) (hL.1.trans hml.symm) (ac_room h4) (by rw [hb]; exact hd) ⟨h5, h6⟩ (ac_pcU hbs hK hR hS) (fun T' hT X => ?_))
  obtain ⟨mk, methM, cM, hnamed, hmethM, hcodeM', -, -, -, -, hsigM⟩ := Cond.codeWith_spec (hts _ (by have := hc.1; have e := List.cons.inj hw; rw [← e.1]; exact this))
  have hstatic : methM.isStatic = true := Cond.static_spec hnamed hmethM (hts _ hst)
  obtain ⟨kP, hkP, -⟩ := className_of_methodNamed hnamed
  have hinitP : kP.init = .initialized := Cond.initialized_spec (findClass_of_methodNamed hnamed) hkP (hts _ hc.2.1)
  obtain ⟨vm₁, X₁, hstep₁⟩ := X.invokestatic hx hown (hts _ hl) hnamed hmethM hstatic hkP hinitP ⟨hc.2.2.1.1, hc.2.2.1.2.1⟩ (g := F0 m pc ls (as.reverse ++ r)) rfl (argsL := as) (rest := r) (hlen.trans (ac_len hc.2.2.1.2.2 _ hsigM.2)) rfl (by rw [hb]; exact hd)
  exact ⟨mk, vm₁, X₁.warmed, hnamed, hstep₁⟩
theorem ac_avs {as r : List Value} {a : Nat} : as.reverse ++ (.ref a :: r) = as.reverse ++ .ref a :: r := rfl
theorem so_callI (hC : ac_Ct y N T) (hw : ac_ws y N = Cond.code y N.2.2.1 N.2.2.2.1 none :: ac_gw) (hw0 : N.2.2.2.2.1 = none) (hc : ac_cal M N y na) (hd : decode M.2.2.1 pc = .ok (.invokespecial idx, 3)) (hl : Cond.methodLink M.1 idx y ∈ ac_gw) (hin : Cond.instanceMethod y ∈ ac_gw) (hy1 : y.name = "<init>") (hn : pc + 3 = nx) : ac_So M scr pc (op_callI M.2.2.2.2.2.2 M.2.2.2.2.2.1 T N.2.2.2.2.2.2 na pc nx) := by
  subst hn
  intro p l e s m args below meth c base D A Q G lv st ah k n h H locs ls hR hS hL
  obtain ⟨hlt, hx, hb, hml, hr, hown, hts, hlk, htab, hK, hbs, hmn, hsc⟩ := id G
  obtain ⟨as, r0, rfl, hlen, g0⟩ := ac_popw h
  obtain ⟨a, r, rfl, h4, h5, h6, h7⟩ := ac_a1v g0
  have hM := hC l base D A (.ref a :: as) ah _ hlt h7
  refine ac_done G hc.2.2.2.2 h5 h6 hL hS (ac_mkRun (av := .ref a :: as) (ac_backN (by rw [hw0]; exact hw) hc hts hM) (hL.1.trans hml.symm) (ac_room h4) (by rw [hb]; exact hd) ⟨h5, h6⟩ (ac_pcU hbs hK hR hS) (fun T' hT X => ?_))
  have hpl : e.platform.magicAccessors = ({} : Platform).magicAccessors := by rw [X.admits.platform]
  have hcode : (Cond.code y N.2.2.1 N.2.2.2.1 none).before args s = true := hts _ (by have := hc.1; have e := List.cons.inj hw; rw [← e.1]; exact this)
  obtain ⟨mk, methM, cM, kP, vm₁, hnamed, hmethM, hcodeM, -, hlocalsM, -, hkP, -, hW₁, hstep₁⟩ := Steps.initColdArgs (e := e) X.here hx X.warmed hpl hown hy1 ⟨hc.2.2.1.1, hc.2.2.1.2.1⟩ (hts _ hl) (hts _ hin) hcode (f := F0 m pc ls (as.reverse ++ .ref a :: r)) rfl (fun sig hs => hlen.trans (ac_len hc.2.2.1.2.2 sig hs)) rfl (by rw [hb]; exact hd)
  exact ⟨mk, vm₁, hW₁, hnamed, hstep₁⟩
theorem so_callIN {host : String} (hC : ac_Ct y N T) (hw : ac_ws y N = Cond.code y N.2.2.1 N.2.2.2.1 none :: ac_gw) (hw0 : N.2.2.2.2.1 = none) (hc : ac_cal M N y na) (hd : decode M.2.2.1 pc = .ok (.invokespecial idx, 3)) (hl : Cond.methodLinkNest M.1 idx y host ∈ ac_ng) (hin : Cond.instanceMethod y ∈ ac_gw) (hy1 : y.name = "<init>") (hn : pc + 3 = nx) : ac_So M scr pc (op_callI M.2.2.2.2.2.2 M.2.2.2.2.2.1 T N.2.2.2.2.2.2 na pc nx) := by
  subst hn
  intro p l e s m args below meth c base D A Q G lv st ah k n h H locs ls hR hS hL
  obtain ⟨hlt, hx, hb, hml, hr, hown, hts, hlk, htab, hK, hbs, hmn, hsc⟩ := id G
  obtain ⟨as, r0, rfl, hlen, g0⟩ := ac_popw h
  obtain ⟨a, r, rfl, h4, h5, h6, h7⟩ := ac_a1v g0
  have hM := hC l base D A (.ref a :: as) ah _ hlt h7
  refine ac_done G hc.2.2.2.2 h5 h6 hL hS (ac_mkRun (av := .ref a :: as) (ac_backN (by rw [hw0]; exact hw) hc hts hM) (hL.1.trans hml.symm) (ac_room h4) (by rw [hb]; exact hd) ⟨h5, h6⟩ (ac_pcU hbs hK hR hS) (fun T' hT X => ?_))
  have hpl : e.platform.magicAccessors = ({} : Platform).magicAccessors := by rw [X.admits.platform]
  have hcode : (Cond.code y N.2.2.1 N.2.2.2.1 none).before args s = true := hts _ (by have := hc.1; have e := List.cons.inj hw; rw [← e.1]; exact this)
  obtain ⟨mk, methM, cM, kP, vm₁, hnamed, hmethM, hcodeM, -, hlocalsM, -, hkP, -, hW₁, hstep₁⟩ := Steps.initColdArgsNest (e := e) X.here hx X.warmed hpl hown hy1 ⟨hc.2.2.1.1, hc.2.2.1.2.1⟩ (va_Nw.use rfl (hK.2.2.2.2.2.1 _ hl)) (hts _ hin) hcode (f := F0 m pc ls (as.reverse ++ .ref a :: r)) rfl (fun sig hs => hlen.trans (ac_len hc.2.2.1.2.2 sig hs)) rfl (by rw [hb]; exact hd)
  exact ⟨mk, vm₁, hW₁, hnamed, hstep₁⟩
theorem so_callV {ci : Nat} {rc : vw_C} (hC : ac_Ct y N T) (hw : ac_ws y N = Cond.code y N.2.2.1 N.2.2.2.1 N.2.2.2.2.1 :: ac_gw) (hc : ac_cal M N y na) (hci : vwCl[ci]? = some rc) (hd : decode M.2.2.1 pc = .ok (.invokevirtual idx, 3)) (hl : Cond.methodLink M.1 idx y ∈ ac_gw) (hin : Cond.instanceMethod y ∈ ac_gw) (hse : Cond.selects rc.1 y y ∈ ac_gw) (hn : pc + 3 = nx) : ac_So M scr pc (op_callV M.2.2.2.2.2.2 M.2.2.2.2.2.1 ci T N.2.2.2.2.2.2 na pc nx) := by
  subst hn
  intro p l e s m args below meth c base D A Q G lv st ah k n h H locs ls hR hS hL
  obtain ⟨hlt, hx, hb, hml, hr, hown, hts, hlk, htab, hK, hbs, hmn, hsc⟩ := id G
  obtain ⟨as, r0, rfl, hlen, g0⟩ := ac_popw h
  obtain ⟨a, r, rfl, fs, h1, h4, h5, h6, h7⟩ := ac_a1v g0
  have hM := hC l base D A (.ref a :: as) ah _ hlt h7
  obtain ⟨ws, hP, hD, hin1, -⟩ := ac_fullR hR
  obtain ⟨q0, hq⟩ := hin1 a _ h1
  obtain ⟨cellB, hcB, hoB, hclB⟩ := va_recv (D := D) hK.1 hP hci hq
  refine ac_done G hc.2.2.2.2 h5 h6 hL hS (ac_mkRun (av := .ref a :: as) (ac_backN hw hc hts hM) (hL.1.trans hml.symm) (ac_room h4) (by rw [hb]; exact hd) ⟨h5, h6⟩ (ac_pcU hbs hK hR hS) (fun T' hT X => ?_))
  obtain ⟨mk, methM, hnamed, hmethM, hstM, habM⟩ := Cond.instanceMethod_spec (hts _ hin)
  obtain ⟨methM', cM, hmethM', -, -, -, -, -, -, hsigM⟩ := Cond.code_spec hnamed (hts _ (by have := hc.1; have e := List.cons.inj hw; rw [← e.1]; exact this))
  cases hmethM.symm.trans hmethM'
  obtain ⟨c2, r2, m2, q1, q2, q3, q4, kP, hkP, hkPi⟩ := Cond.selects_spec (hts _ hse)
  cases hclB.symm.trans q1
  cases (State.methodFound?_of_named hnamed ⟨hc.2.2.1.1, hc.2.2.1.2.1⟩).symm.trans q2
  cases hnamed.symm.trans q3
  have hselP : selectMethod e.platform s.vm cellB.cls mk = .method mk := by rw [Launch.admits_selectMethod X.admits]; exact q4
  obtain ⟨vm₁, X₁, hstep₁⟩ := X.invokevirtual hx hown (hts _ hl) hnamed hmethM hstM hkP hkPi ⟨hc.2.2.1.1, hc.2.2.1.2.1⟩ (a := a) (cell := cellB) (by rw [hT]; exact hcB)
    (fun z h => by rw [h] at hoB; cases hoB) hselP hmethM habM hkP hkPi (g := F0 m pc ls (as.reverse ++ .ref a :: r)) rfl (argsL := as) (rest := r) (hlen.trans (ac_len hc.2.2.1.2.2 _ hsigM)) rfl (by rw [hb]; exact hd)
  exact ⟨mk, vm₁, X₁.warmed, hnamed, hstep₁⟩
/-- one class of a call by the receiver's class -/
def ac_en (M : ac_D) (idx na : Nat) (x : MethodName) (q : Nat × ac_T × Room) : Prop := ∃ (y : MethodName) (N : ac_D) (rc : vw_C), ac_Ct y N q.2.1 ∧ N.2.2.2.2.2.2 = q.2.2 ∧ ac_ws y N = Cond.code y N.2.2.1 N.2.2.2.1 N.2.2.2.2.1 :: ac_gw ∧ ac_cal M N y na ∧ vwCl[q.1]? = some rc ∧ Cond.instanceMethod y ∈ ac_gw ∧ Cond.selects rc.1 x y ∈ ac_gw
theorem ac_vtv {tb : List (Nat × ac_T × Room)} {cj : Nat} {K : ac_T → Room → Prop} (h : ac_vt tb cj K) : ∃ q ∈ tb, q.1 = cj ∧ K q.2.1 q.2.2 := by
  induction tb with
  | nil => exact False.elim h
  | cons q t ih =>
    have h : cond (Nat.beq q.1 cj) (K q.2.1 q.2.2) (ac_vt t cj K) := h
    cases hc : Nat.beq q.1 cj with
    | true =>
      rw [hc] at h
      exact ⟨q, List.mem_cons_self, Nat.eq_of_beq_eq_true hc, h⟩
    | false =>
      rw [hc] at h
      obtain ⟨z, h1, h2⟩ := ih h
      exact ⟨z, List.mem_cons_of_mem _ h1, h2⟩
theorem so_callU {x : MethodName} {tb : List (Nat × ac_T × Room)} (htb : ∀ q ∈ tb, ac_en M idx na x q) (hdecl : (Cond.instanceMethod x ∈ ac_gw ∧ ∃ (b : ByteArray) (k : Nat) (rt : Option FieldType), Cond.code x b k rt ∈ ac_gw) ∨ Cond.declares x ∈ ac_ng) (hsm : Cond.sameMethod x.cls x.cls x.name x.desc ∈ ac_gw) (hxc : x.cls ≠ "java/lang/invoke/MethodHandle" ∧ x.cls ≠ "java/lang/invoke/VarHandle" ∧ (parseMethodDescriptor x.desc).map (fun d => d.parameters.length) = some na) (hd : decode M.2.2.1 pc = .ok (.invokevirtual idx, 3)) (hl : Cond.methodLink M.1 idx x ∈ ac_gw) (hn : pc + 3 = nx) : ac_So M scr pc (op_callU M.2.2.2.2.2.2 M.2.2.2.2.2.1 tb na pc nx) := by
  subst hn
  intro p l e s m args below meth c base D A Q G lv st ah k n h H locs ls hR hS hL
  obtain ⟨hlt, hx, hb, hml, hr, hown, hts, hlk, htab, hK, hbs, hmn, hsc⟩ := id G
  obtain ⟨as, r0, rfl, hlen, g0⟩ := ac_popw h
  obtain ⟨a, r, rfl, cj, fs, h1, g1⟩ := ac_a1v g0
  obtain ⟨q, hqin, rfl, h4, h5, h6, h7⟩ := ac_vtv g1
  obtain ⟨y, N, rc, hC, hrm, hw, hc, hci, hin, hse⟩ := htb q hqin
  have hM := hC l base D A (.ref a :: as) ah _ hlt h7
  obtain ⟨ws, hP, hD, hin1, -⟩ := ac_fullR hR
  obtain ⟨q0, hq⟩ := hin1 a _ h1
  obtain ⟨cellB, hcB, hoB, hclB⟩ := va_recv (D := D) hK.1 hP hci hq
  rw [← hrm] at h5 h6 hM
  refine ac_done (rc := N.2.2.2.2.2.2) G hc.2.2.2.2 h5 h6 hL hS (ac_mkRun (av := .ref a :: as) (ac_backN hw hc hts hM) (hL.1.trans hml.symm) (ac_room h4) (by rw [hb]; exact hd) ⟨h5, h6⟩ (ac_pcU hbs hK hR hS) (fun T' hT X => ?_))
  have hD0 : va_Decl s ⟨x.cls, x.name, x.desc⟩ := by
    rcases hdecl with ⟨d1, b, k9, rt, d2⟩ | d1
    · exact va_Decl.of (hts _ d1) (hts _ d2)
    · exact va_Decl.abs (hK.2.2.2.2.2.1 _ d1)
  obtain ⟨r9, r, hn, hrm, hstR, hsigR⟩ := hD0
  obtain ⟨cn, ck, r1, hcn, hck, hni, hf, hn1⟩ := Cond.sameMethod_found (hts _ hsm)
  cases hn.symm.trans hn1
  obtain ⟨mk, methM, hnamed, hmethM, -, habM⟩ := Cond.instanceMethod_spec (hts _ hin)
  obtain ⟨c2, r2, m2, q1, q2, q3, q4, kP, hkP, hkPi⟩ := Cond.selects_spec (hts _ hse)
  cases hclB.symm.trans q1
  cases hf.symm.trans q2
  cases hnamed.symm.trans q3
  have hselP : selectMethod e.platform s.vm cellB.cls r9 = .method mk := by rw [Launch.admits_selectMethod X.admits]; exact q4
  obtain ⟨vm₁, X₁, hstep₁⟩ := X.invokevirtualUp hx hown (hts _ hl) (hts _ hsm) ⟨hxc.1, hxc.2.1⟩ hn hrm hstR (a := a) (cell := cellB) (by rw [hT]; exact hcB)
    (fun z h => by rw [h] at hoB; cases hoB) hselP hmethM habM hkP hkPi (g := F0 m pc ls (as.reverse ++ .ref a :: _)) rfl (argsL := as) (rest := _) (hlen.trans (ac_len (y := x) hxc.2.2 _ hsigR)) rfl (by rw [hb]; exact hd)
  exact ⟨mk, vm₁, X₁.warmed, hnamed, hstep₁⟩
theorem so_objinit (hd : decode M.2.2.1 pc = .ok (.invokespecial idx, 3)) (hl : Cond.methodLink M.1 idx Lib.objectInit ∈ ac_gw) (hin : Cond.instanceMethod Lib.objectInit ∈ ac_gw) (hcd : Cond.code Lib.objectInit ⟨#[0xb1]⟩ 1 none ∈ ac_gw) (hR1 : 1 ≤ M.2.2.2.2.2.2.frames ∧ 20 ≤ M.2.2.2.2.2.2.locals) (hn : pc + 3 = nx) : ac_So M scr pc (op_objinit nx) := by
  subst hn
  intro p l e s m args below meth c base D A Q G lv st ah k n h H locs ls hR hS hL
  obtain ⟨hlt, hx, hb, hml, hr, hown, hts, hlk, htab, hK, hbs, hmn, hsc⟩ := id G
  obtain ⟨a, r, rfl, h4, h5⟩ := ac_a1v h
  refine W.objInit hx hb hown (hts _ hl) (hts _ hin) (hts _ hcd) rfl (hL.1.trans hml.symm) rfl hd hR1.1 ?_ ?_
  · have h9 := lv_room (m := m) (pc := pc) (ls := ls) (rest := r) (ac_room h4)
    have := hR1.2
    show 2 * (F0 m pc ls r).monitorRoom + _ + 12 ≤ _
    omega
  · exact h5 H locs ls hR hS hL
end ACY
end
section
/-! ===== throws; a new grid; a method's contract ===== -/
theorem ac_txI (j : Int32) : (stringBytes (stringToUtf16 (toString j))).size ≤ 212 ∧ ((toString j) == notModelled) = false := by
  have h1 := int32_print j
  have h2 := stringBytes_size_le (stringToUtf16 (toString j))
  have h3 := utf16_size_le (toString j)
  refine ⟨by omega, ?_⟩
  cases h : (toString j == notModelled) with
  | false => rfl
  | true =>
    have e : toString j = notModelled := by simpa using h
    rw [e] at h1
    exact absurd h1 (by decide +kernel)
section ACT
variable {M : ac_D} {scr : Nat → Nat → (Nat → Int32) → Prop} {pc nx : Nat}
/-- words that hold: of the tables, or of those that are carried along -/
theorem ac_hat {args : Array Value} {s : State} {base : Nat} {D : va_G} {A : Nat → ClassId} {H : Heap} {L : List Cond} (hts : ∀ w ∈ ac_gw, w.before args s = true) (hK : ac_KN base D A s H) (h : ∀ w ∈ L, w ∈ ac_gw ∨ w ∈ ac_ng) : ∀ w ∈ L, w.before args s = true := by
  intro w hw
  rcases h w hw with q | q
  · exact hts w q
  · exact va_Nw.use (ac_ng_on q) (hK.2.2.2.2.2.1 w q)
theorem ac_ot {L : List Cond} (h : ∀ w ∈ L, w ∈ ac_gw ∨ w ∈ ac_ng) : ∀ w ∈ L, vx_ot w = true := by
  intro w hw
  unfold vx_ot
  rcases h w hw with q | q
  · rw [ac_gw_good q]; simp
  · rw [ac_ng_on q]; simp
/-- the heap behind a throw: what was there stays -/
theorem ac_kept {base : Nat} {D : va_G} {A : Nat → ClassId} {ah : ac_H} {s t : State} {H : Heap} {locs : List Loc} (hR : ac_Rep base D A ah H) (hS : va_S (ac_B base) s.heap H locs) (h1 : H.size ≤ t.heap.size) (h2 : ∀ q : Nat, q < H.size → t.heap[q]? = H[q]?) : ac_Rep base D A ah t.heap ∧ va_F (ac_B base) s t := by
  refine ⟨⟨Nat.le_trans hR.1 h1, fun a e he => ⟨(hR.2 a e he).1, (hR.2 a e he).2.kept (h2 a (hR.2 a e he).2.lt)⟩⟩, Nat.le_trans hS.1 h1, fun q h3 h4 => ?_⟩
  rw [h2 q (Nat.lt_of_lt_of_le h3 hS.1)]
  exact hS.2.1 q h3 h4
theorem so_throw {x ik ic : Nat} {names : List String} (h0 : M.2.2.2.2.2.1 = []) (hcls : Bundle.fit (ac_xn x) = true) (hnames : ∀ n ∈ names, Bundle.fit n = true) (hw : ∀ w ∈ Cond.classLink M.1 ik (ac_xn x) :: Cond.initialized (ac_xn x) :: vx_at0 M.1 ic (ac_xn x) names, w ∈ ac_gw ∨ w ∈ ac_ng) (d0 : decode M.2.2.1 pc = .ok (.new ik, 3)) (d3 : decode M.2.2.1 (pc + 3) = .ok (.dup, 1)) (d4 : decode M.2.2.1 (pc + 4) = .ok (.invokespecial ic, 3)) (d7 : decode M.2.2.1 (pc + 7) = .ok (.athrow, 1)) (hRm : names.length + 3 < M.2.2.2.2.2.2.frames ∧ 13 * (names.length + 1) + 42 ≤ M.2.2.2.2.2.2.locals) : ac_So M scr pc (op_throw M.2.2.2.2.2.2 x) := by
  intro p l e s m args below meth c base D A Q G lv st ah k n h H locs ls hR hS hL
  obtain ⟨hlt, hx, hb, hml, hr, hown, hts, hlk, htab, hK, hbs, hmn, hsc⟩ := G
  obtain ⟨hQ, hk, hn, rfl⟩ := h
  have hat := ac_hat hts hK hw
  refine vx_throw0 hx hb hlt hown hcls hnames (hat _ List.mem_cons_self) (hat _ (List.mem_cons_of_mem _ List.mem_cons_self)) (fun w hw' => hat w (List.mem_cons_of_mem _ (List.mem_cons_of_mem _ hw'))) (ac_ot hw) hK.2.1 hK.2.2.1 hS (hL.1.trans hml.symm) d0 d3 d4 d7 (fun z hz => ?_) hRm.1 (by simpa using hRm.2) hk hn hlk (fun t hvm h1 h2 => ?_) hS.2.2 hk hn
  · rw [htab, h0] at hz; cases hz
  · obtain ⟨q1, q2⟩ := ac_kept hR hS h1 h2
    exact ⟨x, ah, rfl, hQ, q1, q2⟩
theorem so_npe (h0 : M.2.2.2.2.2.1 = []) (hw : ∀ w ∈ vx_atN 8, w ∈ ac_gw ∨ w ∈ ac_ng) (hd : decode M.2.2.1 pc = .ok (.arraylength, 1)) (hRm : 7 < M.2.2.2.2.2.2.frames ∧ 10240 ≤ M.2.2.2.2.2.2.locals) : ac_So M scr pc (op_npe M.2.2.2.2.2.2) := by
  intro p l e s m args below meth c base D A Q G lv st ah k n h H locs ls hR hS hL
  obtain ⟨hlt, hx, hb, hml, hr, hown, hts, hlk, htab, hK, hbs, hmn, hsc⟩ := G
  obtain ⟨rfl, hQ, hk, hn⟩ := h
  refine vx_arraylengthN hx hb hd (vx_npe hx hlt (nb := 8) (ac_hat hts hK hw) (ac_ot hw) hK.2.1 hK.2.2.1 hS (hL.1.trans hml.symm) hRm.1 (by simpa using hRm.2) hk hn hlk (fun H1 q9 ce z1 z2 z3 z4 z5 z6 => ?_))
  refine vx_out (fun z hz => ?_) hlk z4 z5 z6 (fun t ht hvm => ?_) z3.2.2 hk hn
  · rw [htab, h0] at hz; cases hz
  · obtain ⟨q1, q2⟩ := ac_kept (t := t) hR hS (by rw [ht]; exact z1) (fun q hq => by rw [ht]; exact z2 q hq)
    exact ⟨1, ah, rfl, hQ, q1, q2⟩
theorem so_nas (h0 : M.2.2.2.2.2.1 = []) {at1 : ArrayType} (hw : ∀ w ∈ vx_atM "java/lang/NegativeArraySizeException" ["java/lang/RuntimeException", "java/lang/Exception"], w ∈ ac_gw ∨ w ∈ ac_ng) (hd : decode M.2.2.1 pc = .ok (.newarray at1, 2)) (hRm : 6 < M.2.2.2.2.2.2.frames ∧ 10240 ≤ M.2.2.2.2.2.2.locals) : ac_So M scr pc (op_nas M.2.2.2.2.2.2) := by
  intro p l e s m args below meth c base D A Q G lv st ah k n h H locs ls hR hS hL
  obtain ⟨hlt, hx, hb, hml, hr, hown, hts, hlk, htab, hK, hbs, hmn, hsc⟩ := G
  obtain ⟨j, r, rfl, rfl, hj, hQ, hk, hn⟩ := ac_i1v h
  refine vx_newarrayZ hx hb hj hd (fun tx htx => vx_vm hx hlt (nb := 212) (names := ["java/lang/RuntimeException", "java/lang/Exception"]) (by decide +kernel) (by decide +kernel) (by decide) (by decide) (ac_hat hts hK hw) (ac_ot hw) hK.2.1 hK.2.2.1 hS (hL.1.trans hml.symm) (by rw [htx]; exact (ac_txI j).2) (by rw [htx]; exact (ac_txI j).1) (by decide) hRm.1 (by simpa using hRm.2) (by decide) hk hn hlk (fun H1 q9 ce z1 z2 z3 z4 z5 z6 => ?_))
  refine vx_out (fun z hz => ?_) hlk z4 z5 z6 (fun t ht hvm => ?_) z3.2.2 hk hn
  · rw [htab, h0] at hz; cases hz
  · obtain ⟨q1, q2⟩ := ac_kept (t := t) hR hS (by rw [ht]; exact z1) (fun q hq => by rw [ht]; exact z2 q hq)
    exact ⟨4, ah, rfl, hQ, q1, q2⟩
theorem so_oob {idx : Nat} (h0 : M.2.2.2.2.2.1 = []) (hw : ∀ w ∈ vx_atM "java/lang/ArrayIndexOutOfBoundsException" ["java/lang/IndexOutOfBoundsException", "java/lang/RuntimeException", "java/lang/Exception"], w ∈ ac_gw ∨ w ∈ ac_ng) (hl : Cond.fieldLink M.1 idx "TypedHall" "NO_ELEMENTS" "[I" ∈ ac_gw) (hd : decode M.2.2.1 pc = .ok (.getstatic idx, 3)) (d3 : decode M.2.2.1 (pc + 3) = .ok (.iload_n 0, 1)) (d4 : decode M.2.2.1 (pc + 4) = .ok (.iaload, 1)) (hRm : 7 < M.2.2.2.2.2.2.frames ∧ 10240 ≤ M.2.2.2.2.2.2.locals) : ac_So M scr pc (op_oob M.2.2.2.2.2.2) := by
  intro p l e s m args below meth c base D A Q G lv st ah k n h H locs ls hR hS hL
  obtain ⟨hlt, hx, hb, hml, hr, hown, hts, hlk, htab, hK, hbs, hmn, hsc⟩ := G
  obtain ⟨v, h1, h2⟩ := ac_ldv h
  obtain ⟨⟨j, rfl⟩, rfl, hQ, hk, hn⟩ := ac_isIv h2
  obtain ⟨zn, z1, z2, z3⟩ := hK.2.2.2.1
  refine va_gets hx hb z1 hS hown (hts _ hl) (fun _ z => z) hd ?_
  refine lv_iload_n hx hb d3 rfl (hL.2.2.2 _ _ h1) ?_
  obtain ⟨cell, e1, e2, e3, e4, -⟩ := z2
  have hcell : H[zn]? = some cell := (hS.2.1 zn (Nat.lt_of_lt_of_le z3 hbs) (fun z => absurd z (Nat.not_le.mpr z3))).trans e1
  have key : ∀ tx : String, tx = (toString "Index " ++ toString j ++ toString " out of bounds for length " ++ toString cell.slots.size) → vx_Note p l e M.2.2.2.2.2.2 s m args below meth c H locs k n (vx_MQ below (ac_Qc base D A Q) (ac_XC base D A Q) args s M.2.2.2.2.2.2.cells M.2.2.2.2.2.2.slots (ac_B base)) (F0 m (pc + 3 + 1) ls []) "java/lang/ArrayIndexOutOfBoundsException" tx := by
    intro tx htx
    refine vx_vm hx hlt (nb := 212) (names := ["java/lang/IndexOutOfBoundsException", "java/lang/RuntimeException", "java/lang/Exception"]) (by decide +kernel) (by decide +kernel) (by decide) (by decide) (ac_hat hts hK hw) (ac_ot hw) hK.2.1 hK.2.2.1 hS (hL.1.trans hml.symm) (by rw [htx]; exact index_text_modelled j _) (by rw [htx]; exact index_text_bytes j (by rw [e4]; decide)) (by decide) hRm.1 (by simpa using hRm.2) (by decide) hk hn hlk (fun H1 q9 ce y1 y2 y3 y4 y5 y6 => ?_)
    refine vx_out (fun z hz => ?_) hlk y4 y5 y6 (fun t ht hvm => ?_) y3.2.2 hk hn
    · rw [htab, h0] at hz; cases hz
    · obtain ⟨q1, q2⟩ := ac_kept (t := t) hR hS (by rw [ht]; exact y1) (fun q hq => by rw [ht]; exact y2 q hq)
      exact ⟨3, ah, rfl, hQ, q1, q2⟩
  intro T hT X
  obtain ⟨t, st, q⟩ := key _ rfl T hT X
  exact ⟨t, X.ialoadOut hx (by rw [hT]; exact hcell) e2 (j := j) (by rw [e4]; exact Or.inr (Nat.zero_le _)) (g := F0 m (pc + 3 + 1) ls [.int j, .ref zn]) rfl (rest := []) rfl (by rw [hb]; exact d4) t st, q⟩
/-- new int[x][y] -/
theorem so_mnew {idx : Nat} (hd : decode M.2.2.1 pc = .ok (.multianewarray idx 2, 4)) (hw : Cond.classLink M.1 idx ("[" ++ (FieldType.array .int).toString) ∈ ac_gw) (hw2 : Cond.arrayClass .int ∈ ac_gw) (hn : pc + 4 = nx) : ac_So M scr pc (op_mnew M.2.2.2.2.2.2 nx) := by
  subst hn
  intro p l e s m args below meth c base D A Q G lv st ah k n h H locs ls hR hS hL
  obtain ⟨hlt, hx, hb, hml, hr, hown, hts, hlk, htab, hK, hbs, hmn, hsc⟩ := G
  obtain ⟨y, r1, rfl, g1⟩ := ac_i1v h
  obtain ⟨x, r, rfl, h1, h2, h3, h4, h5, h6, h7⟩ := ac_i1v g1
  intro T hT X
  have hm : x.toNatClampNeg * y.toNatClampNeg ≤ 6 * 4 := Nat.mul_le_mul h3 h4
  obtain ⟨vm₁, cA, comp, -, fA, fC, hO, -, X', step⟩ := X.multianewarray2F (ty := .int) hx hown (hts _ hw) hK.2.2.2.2.2.2.2 (hts _ hw2) (g := F0 m pc ls (.int y :: .int x :: r)) rfl (by rw [hb]; exact hd) rfl h1 h2 (by omega) (by show y.toNatClampNeg * 4 ≤ _; omega) (by omega) rfl rfl (by omega) (by omega)
  have ecA : cA = A 4 := Option.some.inj (fA.symm.trans (hK.1.2 4 _ rfl).2)
  have ecC : comp = A 0 := Option.some.inj (fC.symm.trans (hK.1.2 0 _ rfl).2)
  subst ecA
  subst ecC
  generalize hF : Jvm.Free.Multi.fill (T.setVm vm₁) (A 4) (A 0) x.toNatClampNeg y.toNatClampNeg (defaultValue .int) x.toNatClampNeg = F at X' step
  have hTh : (T.setVm vm₁).heap = H := hT
  obtain ⟨f1, f2, -, -⟩ := Jvm.Free.Multi.fill_facts (T.setVm vm₁) (A 4) (A 0) x.toNatClampNeg y.toNatClampNeg (defaultValue .int) x.toNatClampNeg
  rw [hF, hTh] at f1 f2
  have hold : ∀ z : Nat, z < H.size → F.heap[z]? = H[z]? := fun z hz => by
    have := Jvm.Free.Multi.fill_old (T.setVm vm₁) (A 4) (A 0) x.toNatClampNeg y.toNatClampNeg (defaultValue .int) (a := z) (by rw [hTh]; exact hz) x.toNatClampNeg
    rw [hF, hTh] at this
    exact this
  have hrow : ∀ j : Nat, j < x.toNatClampNeg → F.heap[H.size + 1 + j]? = some (arrV (A 0) y.toNatClampNeg (fun _ => .int 0)) := fun j hj => by
    have := Jvm.Free.Multi.fill_inner (T.setVm vm₁) (A 4) (A 0) x.toNatClampNeg y.toNatClampNeg (defaultValue .int) x.toNatClampNeg j hj
    rw [hF, hTh] at this
    rw [this]
    show some ({ cls := A 0, slots := Array.replicate y.toNatClampNeg (.int 0), vm := .none } : Cell) = _
    rw [arrV_new]
  have vro : ∀ i : Nat, Jvm.Free.Multi.outerC (A 4) x.toNatClampNeg H.size i = arrV (A 4) x.toNatClampNeg (fun j => va_rf (if j < i then some (H.size + 1 + j) else none)) := by
    intro i
    induction i with
    | zero =>
      show ({ cls := A 4, slots := Array.replicate x.toNatClampNeg .null, vm := .none } : Cell) = _
      rw [arrV_new]
      refine congrArg (arrV (A 4) x.toNatClampNeg) (funext fun j => ?_)
      simp [va_rf]
    | succ i ih =>
      show (Jvm.Free.Multi.outerC (A 4) x.toNatClampNeg H.size i).setSlot i (.ref (H.size + 1 + i)) = _
      rw [ih, arrV_store]
      refine congrArg (arrV (A 4) x.toNatClampNeg) (funext fun j => ?_)
      by_cases q : j = i
      · subst q
        simp [updV, va_rf]
      · by_cases h : j < i
        · simp [updV, q, h, Nat.lt_succ_of_lt h]
        · simp [updV, q, h, show ¬ j < i + 1 by omega]
  rw [vro] at f2
  have hlt9 : ∀ (a : Nat) (z : ac_E), ah a = some z → a < H.size := fun a z h => (hR.2 a z h).2.lt
  have hfr : ∀ j, j ≤ x.toNatClampNeg → ah (H.size + j) = none := fun j hj => by
    cases hc : ah (H.size + j) with
    | none => rfl
    | some z => have := hlt9 _ _ hc; omega
  have hR1 : ac_Rep base D A (ac_mh ah H.size x.toNatClampNeg y.toNatClampNeg) F.heap := by
    refine ⟨by rw [f1]; have := hR.1; omega, fun a z hz => ?_⟩
    unfold ac_mh at hz
    by_cases q : a = H.size
    · subst q
      rw [if_pos rfl] at hz
      cases hz
      exact ⟨hR.1, f2⟩
    · rw [if_neg q] at hz
      by_cases q2 : H.size < a ∧ a ≤ H.size + x.toNatClampNeg
      · rw [if_pos q2] at hz
        cases hz
        obtain ⟨j, rfl⟩ : ∃ j, a = H.size + 1 + j := ⟨a - H.size - 1, by omega⟩
        exact ⟨by have := hR.1; omega, hrow j (by omega)⟩
      · rw [if_neg q2] at hz
        exact ⟨(hR.2 a z hz).1, (hR.2 a z hz).2.kept (hold a (hlt9 a z hz))⟩
  have hS1 : va_S (ac_B base) s.heap F.heap locs := ⟨by rw [f1]; have := hS.1; omega, fun z g1 g2 => (hold z (Nat.lt_of_lt_of_le g1 hS.1)).trans (hS.2.1 z g1 g2), hS.2.2⟩
  obtain ⟨t, a1, b1⟩ := h7 H.size hfr F.heap locs ls hR1 hS1 hL F rfl (stand_widen X' (by omega) (by omega))
  refine ⟨t, step t ?_, b1⟩
  have e9 : T.heap.size = H.size := by rw [hT]
  rw [e9]
  exact a1
end ACT
-- the entry
theorem ac_padv : ∀ {n : Nat} {K : ac_V → Prop}, ac_pad n K → K (List.replicate n none)
  | 0, K, h => h
  | n + 1, K, h => by
    have := ac_padv (n := n) (K := fun t => K (none :: t)) h
    exact this
theorem ac_entv : ∀ {as : List Value} {n : Nat} {K : ac_V → Prop}, ac_ent as n K → ∃ lv, K lv ∧ lv.length = n ∧ (lg_sl as).length ≤ n ∧ ∀ (i j : Nat) (w : Value), lv[j]? = some (some w) → (i + j, w) ∈ lv_args i as
  | [], n, K, h => by
    have h : ac_pad n K := by cases n <;> exact h
    refine ⟨_, ac_padv h, by simp, by simp [lg_sl], fun i j w hj => ?_⟩
    rw [List.getElem?_replicate] at hj
    split at hj <;> simp at hj
  | .int x :: t, n + 1, K, h => by
    obtain ⟨lv, h1, h2, h3, h4⟩ := ac_entv (as := t) (n := n) h
    refine ⟨some (.int x) :: lv, h1, by simp [h2], by simp [lg_sl, Value.category] at h3 ⊢; omega, fun i j w hj => ?_⟩
    match j, hj with
    | 0, hj =>
      have e : Value.int x = w := by simpa using hj
      subst e
      exact List.mem_cons_self
    | j + 1, hj =>
      have := h4 (i + 1) j w (by simpa using hj)
      rw [show i + 1 + j = i + (j + 1) by omega] at this
      exact List.mem_cons_of_mem _ this
  | .ref x :: t, n + 1, K, h => by
    obtain ⟨lv, h1, h2, h3, h4⟩ := ac_entv (as := t) (n := n) h
    refine ⟨some (.ref x) :: lv, h1, by simp [h2], by simp [lg_sl, Value.category] at h3 ⊢; omega, fun i j w hj => ?_⟩
    match j, hj with
    | 0, hj =>
      have e : Value.ref x = w := by simpa using hj
      subst e
      exact List.mem_cons_self
    | j + 1, hj =>
      have := h4 (i + 1) j w (by simpa using hj)
      rw [show i + 1 + j = i + (j + 1) by omega] at this
      exact List.mem_cons_of_mem _ this
  | .null :: t, n + 1, K, h => by
    obtain ⟨lv, h1, h2, h3, h4⟩ := ac_entv (as := t) (n := n) h
    refine ⟨some .null :: lv, h1, by simp [h2], by simp [lg_sl, Value.category] at h3 ⊢; omega, fun i j w hj => ?_⟩
    match j, hj with
    | 0, hj =>
      have e : Value.null = w := by simpa using hj
      subst e
      exact List.mem_cons_self
    | j + 1, hj =>
      have := h4 (i + 1) j w (by simpa using hj)
      rw [show i + 1 + j = i + (j + 1) by omega] at this
      exact List.mem_cons_of_mem _ this
  | .long x :: t, n + 2, K, h => by
    obtain ⟨lv, h1, h2, h3, h4⟩ := ac_entv (as := t) (n := n) h
    refine ⟨some (.long x) :: none :: lv, h1, by simp [h2], by simp [lg_sl, Value.category] at h3 ⊢; omega, fun i j w hj => ?_⟩
    match j, hj with
    | 0, hj =>
      have e : Value.long x = w := by simpa using hj
      subst e
      exact List.mem_cons_self
    | 1, hj => simp at hj
    | j + 2, hj =>
      have := h4 (i + 2) j w (by simpa using hj)
      rw [show i + 2 + j = i + (j + 2) by omega] at this
      exact List.mem_cons_of_mem _ this
  | .long x :: t, 1, K, h => False.elim h
  | .long x :: t, 0, K, h => False.elim h
  | .int x :: t, 0, K, h => False.elim h
  | .ref x :: t, 0, K, h => False.elim h
  | .null :: t, 0, K, h => False.elim h
  | .float x :: t, n, K, h => by cases n <;> first | exact False.elim h | (rename_i n; cases n <;> exact False.elim h)
  | .double x :: t, n, K, h => by cases n <;> first | exact False.elim h | (rename_i n; cases n <;> exact False.elim h)
  | .retAddr x :: t, n, K, h => by cases n <;> first | exact False.elim h | (rename_i n; cases n <;> exact False.elim h)
theorem ac_lkv {code : List (Nat × ac_op)} {pc : Nat} {P : ac_P} {Q : ac_Q} {lv : ac_V} {st : List Value} {ah : ac_H} {k n : Nat} (h : ac_lk code pc P Q lv st ah k n) : ∃ op, (pc, op) ∈ code ∧ op P Q lv st ah k n := by
  induction code with
  | nil => exact False.elim h
  | cons x t ih =>
    have h : cond (Nat.beq x.1 pc) x.2 (ac_lk t pc) P Q lv st ah k n := h
    cases hc : Nat.beq x.1 pc with
    | true =>
      rw [hc] at h
      have e := Nat.eq_of_beq_eq_true hc
      subst e
      exact ⟨x.2, List.mem_cons_self, h⟩
    | false =>
      rw [hc] at h
      obtain ⟨op, h1, h2⟩ := ih h
      exact ⟨op, List.mem_cons_of_mem _ h1, h2⟩
/-- the walk of a method's body -/
theorem ac_body {M : ac_D} {scr : Nat → Nat → (Nat → Int32) → Prop} {code : List (Nat × ac_op)} {p : Program} {l : Launch} {e : Env} {s : State} {m : MethodId} {below : List Frame} {meth : Method} {c : Code} {base : Nat} {D : va_G} {A : Nat → ClassId} {as : List Value} {ah : ac_H} {Q : ac_Q} (hso : ∀ x ∈ code, ac_So M scr x.1 x.2) (G : ac_G l p s m as.toArray meth c M base D A scr) (hR : ac_Rep base D A ah s.heap) (hT : ac_vc code M.2.2.2.1 as ah Q) :
    W p l e M.2.2.2.2.2.2 s m as.toArray below meth c s.heap [] 0 0 (vx_MQ below (ac_Qc base D A Q) (ac_XC base D A Q) as.toArray s M.2.2.2.2.2.2.cells M.2.2.2.2.2.2.slots (ac_B base)) (entryFrame m as.toArray M.2.2.2.1) := by
  have h := hT (ac_W p l e s m as.toArray below meth c M.2.2.2.1 M.2.2.2.2.2.2 base D A Q) (fun pc lv st h k n hl => by
    obtain ⟨op, h1, h2⟩ := ac_lkv hl
    exact hso _ h1 p l e s m as.toArray below meth c base D A Q G lv st h k n h2)
  obtain ⟨lv, h1, h2, h3, h4⟩ := ac_entv h
  have hl := lv_entry as (n := M.2.2.2.1) h3
  rw [lg_entry_eq]
  exact h1 s.heap [] _ hR va_S.rf ⟨hl.1, hl.2.1, h2, fun j w hj => by
    have := h4 0 j w hj
    rw [Nat.zero_add] at this
    exact hl.2.2 (j, w) this⟩
theorem ac_meth {y : MethodName} {M : ac_D} {code : List (Nat × ac_op)} (hy : plainName y.cls = true) (hown : M.1 = y.cls) (hmn : M.2.1 = y.name) (h0 : M.2.2.2.2.2.1 = []) (hw : ac_ws y M = Cond.code y M.2.2.1 M.2.2.2.1 M.2.2.2.2.1 :: ac_gw) (hso : ∀ x ∈ code, ac_So M (fun _ _ _ => False) x.1 x.2) : ac_Ct y M (ac_vc code M.2.2.2.1) := by
  intro l base D A as ah Q hl hT
  refine vx_ofW (cc := M.2.2.1) (maxL := M.2.2.2.1) (ret := M.2.2.2.2.1) hy hw ?_
  intro p e s m args below meth c s₁ B hml hex hv
  obtain ⟨rfl, hR, hK, hbs⟩ := hv
  have hts := atoms_spec (ws := ac_ws y M) B.pre
  refine ac_body (scr := fun _ _ _ => False) hso ⟨hl, B.exec, B.bytes, hml, B.returns, by rw [hown]; exact findClass_of_methodNamed B.named, fun w hw' => hts w (List.mem_cons_of_mem _ hw'), B.notSynchronized, ?_, hK, hbs, by rw [hmn]; exact (name_of_methodNamed B.named B.method).1, fun _ _ _ h => False.elim h⟩ hR hT
  rw [h0]
  exact List.eq_nil_iff_forall_not_mem.mpr (fun x hx => hex x hx)
theorem ac_methH {y : MethodName} {M : ac_D} {code : List (Nat × ac_op)} (hy : plainName y.cls = true) (hown : M.1 = y.cls) (hmn : M.2.1 = y.name) (hw : ac_ws y M = Cond.codeWith y M.2.2.1 M.2.2.2.1 M.2.2.2.2.1 M.2.2.2.2.2.1 :: ac_gw) (hso : ∀ x ∈ code, ac_So M (fun _ _ _ => False) x.1 x.2) : ac_Ct y M (ac_vc code M.2.2.2.1) := by
  intro l base D A as ah Q hl hT
  refine vx_ofWH (cc := M.2.2.1) (maxL := M.2.2.2.1) (ret := M.2.2.2.2.1) (hh := M.2.2.2.2.2.1) hy hw ?_
  intro p e s m args below meth c s₁ B hml hv
  obtain ⟨rfl, hR, hK, hbs⟩ := hv
  have hts := atoms_spec (ws := ac_ws y M) B.pre
  exact ac_body (scr := fun _ _ _ => False) hso ⟨hl, B.exec, B.bytes, hml, B.returns, by rw [hown]; exact findClass_of_methodNamed B.named, fun w hw' => hts w (List.mem_cons_of_mem _ hw'), B.notSynchronized, vx_table (x := y) B (hts _ (by rw [hw]; exact List.mem_cons_self)), hK, hbs, by rw [hmn]; exact (name_of_methodNamed B.named B.method).1, fun _ _ _ h => False.elim h⟩ hR hT
end
section
/-! ===== the JDK's copy of a row of longs ===== -/
def op_cloneJ (R : Room) (nx : Nat) : ac_op := fun P _ lv st h k n => ac_a1 st (fun a r => r = [] ∧ ∃ (z : Nat) (f : Nat → Int64) (w : Nat), h a = some (.inr (2, z, .inr (.inl f))) ∧ z ≤ w ∧ k + 1 ≤ R.cells ∧ n + w ≤ R.slots ∧ ∀ q : Nat, h q = none → P nx lv [.ref q] (ac_hs h q (.inr (2, z, .inr (.inl f)))) (k + 1) (n + w))
def op_castJ (nx : Nat) : ac_op := fun P _ lv st h k n => ac_a1 st (fun a r => ∃ (z : Nat) (f : Nat → Int64), h a = some (.inr (2, z, .inr (.inl f))) ∧ P nx lv (.ref a :: r) h k n)
def op_copyJ (nx : Nat) : ac_op := fun P _ lv st h k n => ac_i1 st (fun m r => ac_i1 r (fun dp r => ac_a1 r (fun a r => ac_i1 r (fun sp r => ac_a1 r (fun a0 r => r = [] ∧ ∃ (z0 z1 : Nat) (f g : Nat → Int64), h a0 = some (.inr (2, z0, .inr (.inl f))) ∧ h a = some (.inr (2, z1, .inr (.inl g))) ∧ ¬ sp < 0 ∧ ¬ dp < 0 ∧ ¬ m < 0 ∧ sp.toNatClampNeg + m.toNatClampNeg ≤ z0 ∧ dp.toNatClampNeg + m.toNatClampNeg ≤ z1 ∧ P nx lv [] (ac_hs h a (.inr (2, z1, .inr (.inl (va_cpy f g sp.toNatClampNeg dp.toNatClampNeg m.toNatClampNeg))))) k n)))))
section ACJ
variable {M : ac_D} {scr : Nat → Nat → (Nat → Int32) → Prop} {pc nx idx : Nat}
theorem so_cloneJ (hd : decode M.2.2.1 pc = .ok (.invokevirtual idx, 3)) (hw : Cond.methodLink M.1 idx ⟨"[J", "clone", "()Ljava/lang/Object;"⟩ ∈ ac_gw) (hw2 : ∀ w ∈ [Cond.sameMethod "[J" "java/lang/Object" "clone" "()Ljava/lang/Object;", .native ⟨"java/lang/Object", "clone", "()Ljava/lang/Object;"⟩, .instanceMethod ⟨"java/lang/Object", "clone", "()Ljava/lang/Object;"⟩, .selects "[J" ⟨"[J", "clone", "()Ljava/lang/Object;"⟩ ⟨"java/lang/Object", "clone", "()Ljava/lang/Object;"⟩], w ∈ ac_gw) (hw3 : Cond.castable "[J" "java/lang/Cloneable" ∈ ac_ng) (hRm : 1 ≤ M.2.2.2.2.2.2.frames ∧ 14 ≤ M.2.2.2.2.2.2.locals) (hn : pc + 3 = nx) : ac_So M scr pc (op_cloneJ M.2.2.2.2.2.2 nx) := by
  subst hn
  intro p l e s m args below meth c base D A Q G lv st ah k n h H locs ls hR hS hL
  obtain ⟨hlt, hx, hb, hml, hr, hown, hts, hlk, htab, hK, hbs, hmn, hsc⟩ := G
  obtain ⟨a, r, rfl, rfl, z, f, w, h1, h2, h3, h4, h5⟩ := ac_a1v h
  obtain ⟨ws, hP, hD, hin1, -⟩ := ac_fullR hR
  obtain ⟨q0, hq⟩ := hin1 a _ h1
  refine va_clone (D := D) hx hb (hml.trans hL.1.symm) hown (hts _ hw) (hts _ (hw2 _ (by simp))) (hts _ (hw2 _ (by simp))) (hts _ (hw2 _ (by simp))) (hts _ (hw2 _ (by simp))) (hK.2.2.2.2.2.1 _ hw3) hK.1 hP hD hS (ac_newA hbs) q0 2 hq rfl (hK.1.2 2 _ rfl).2 (va_fit (F := fun j => .long (f j)) (fun i hi => rfl)) hRm.1 (by simpa using hRm.2) h3 (by show n + z ≤ _; omega) hd (fun q H1 hK1 hP1 hD1 hS1 => ?_)
  obtain ⟨q1, q2⟩ := ac_appR (.inr (2, z, .inr (.inl f))) hin1 (ac_baseS hbs hS1) hD1 hP1
  refine W.widen (k := k + 1) (n := n + w) (Nat.le_refl _) (by show n + z ≤ _; omega) ?_
  exact h5 q q1 H1 locs ls q2 hS1 hL
theorem so_castJ (hd : decode M.2.2.1 pc = .ok (.checkcast idx, 3)) (hw : Cond.classLink M.1 idx "[J" ∈ ac_gw) (hn : pc + 3 = nx) : ac_So M scr pc (op_castJ nx) := by
  subst hn
  intro p l e s m args below meth c base D A Q G lv st ah k n h H locs ls hR hS hL
  obtain ⟨hlt, hx, hb, hml, hr, hown, hts, hlk, htab, hK, hbs, hmn, hsc⟩ := G
  obtain ⟨a, r, rfl, z, f, h1, h2⟩ := ac_a1v h
  obtain ⟨ws, hP, hD, hin1, -⟩ := ac_fullR hR
  obtain ⟨q0, hq⟩ := hin1 a _ h1
  exact va_castA (D := D) hx hb hown (hts _ hw) hP q0 hq (hK.1.2 2 _ rfl).2 hd (h2 H locs ls hR hS hL)
theorem so_copyJ (hd : decode M.2.2.1 pc = .ok (.invokestatic idx, 3)) (hw : Cond.methodLink M.1 idx arraycopyName ∈ ac_gw) (hw2 : ∀ w ∈ [Cond.native arraycopyName, .static arraycopyName, .initialized "java/lang/System"], w ∈ ac_gw) (hRm : 1 ≤ M.2.2.2.2.2.2.frames ∧ nativeFrameWords "java/lang/System" "arraycopy" 5 + 11 ≤ M.2.2.2.2.2.2.locals) (hn : pc + 3 = nx) : ac_So M scr pc (op_copyJ nx) := by
  subst hn
  intro p l e s m args below meth c base D A Q G lv st ah k n h H locs ls hR hS hL
  obtain ⟨hlt, hx, hb, hml, hr, hown, hts, hlk, htab, hK, hbs, hmn, hsc⟩ := G
  obtain ⟨mm, r1, rfl, g1⟩ := ac_i1v h
  obtain ⟨dp, r2, rfl, g2⟩ := ac_i1v g1
  obtain ⟨a, r3, rfl, g3⟩ := ac_a1v g2
  obtain ⟨sp, r4, rfl, g4⟩ := ac_i1v g3
  obtain ⟨a0, r, rfl, rfl, z0, z1, f, g, h1, h2, h3, h4, h5, h6, h7, h8⟩ := ac_a1v g4
  obtain ⟨ws, hP, hD, hin1, -⟩ := ac_fullR hR
  obtain ⟨q0, hq0⟩ := hin1 a0 _ h1
  obtain ⟨q1, hq1⟩ := hin1 a _ h2
  exact va_copyl (D := D) hx hb (hml.trans hL.1.symm) hown (hts _ hw) (hts _ (hw2 _ (by simp))) (hts _ (hw2 _ (by simp))) (hts _ (hw2 _ (by simp))) hK.1 hP hD hS q0 q1 2 2 hq0 hq1 rfl rfl rfl h3 h4 h5 h6 h7 (fun _ _ => rfl) hRm.1 (by simpa using hRm.2) hd (fun H1 locs1 hP1 hD1 hS1 => h8 H1 locs1 ls (ac_setR (.inr (2, z1, .inr (.inl (va_cpy f g sp.toNatClampNeg dp.toNatClampNeg mm.toNatClampNeg)))) hD hin1 hq1 (ac_baseS hbs hS1) hP1) hS1 hL)
end ACJ
end
