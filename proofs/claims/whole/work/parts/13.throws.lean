/-! ===== throws; a new grid; a method's contract ===== -/
theorem ac_txI (j : Int32) : (stringBytes (stringToUtf16 (toString j))).size ≤ 212 ∧ ((toString j) == notModelled) = false := by
  have h1 := int32_print j
  have h2 := stringBytes_size_le (stringToUtf16 (toString j))
  have h3 := utf16_size_le (toString j)
  refine ⟨by omega, ?_⟩
  cases h : (toString j == notModelled) with
  | false => rfl
  | true =>
    have e : toString j = notModelled := by simpa using h
    rw [e] at h1
    exact absurd h1 (by decide +kernel)
section ACT
variable {M : ac_D} {scr : Nat → Nat → (Nat → Int32) → Prop} {pc nx : Nat}
/-- words that hold: of the tables, or of those that are carried along -/
theorem ac_hat {args : Array Value} {s : State} {base : Nat} {D : va_G} {A : Nat → ClassId} {H : Heap} {L : List Cond} (hts : ∀ w ∈ ac_gw, w.before args s = true) (hK : ac_KN base D A s H) (h : ∀ w ∈ L, w ∈ ac_gw ∨ w ∈ ac_ng) : ∀ w ∈ L, w.before args s = true := by
  intro w hw
  rcases h w hw with q | q
  · exact hts w q
  · exact va_Nw.use (ac_ng_on q) (hK.2.2.2.2.2.1 w q)
theorem ac_ot {L : List Cond} (h : ∀ w ∈ L, w ∈ ac_gw ∨ w ∈ ac_ng) : ∀ w ∈ L, vx_ot w = true := by
  intro w hw
  unfold vx_ot
  rcases h w hw with q | q
  · rw [ac_gw_good q]; simp
  · rw [ac_ng_on q]; simp
/-- the heap behind a throw: what was there stays -/
theorem ac_kept {base : Nat} {D : va_G} {A : Nat → ClassId} {ah : ac_H} {s t : State} {H : Heap} {locs : List Loc} (hR : ac_Rep base D A ah H) (hS : va_S (ac_B base) s.heap H locs) (h1 : H.size ≤ t.heap.size) (h2 : ∀ q : Nat, q < H.size → t.heap[q]? = H[q]?) : ac_Rep base D A ah t.heap ∧ va_F (ac_B base) s t := by
  refine ⟨⟨Nat.le_trans hR.1 h1, fun a e he => ⟨(hR.2 a e he).1, (hR.2 a e he).2.kept (h2 a (hR.2 a e he).2.lt)⟩⟩, Nat.le_trans hS.1 h1, fun q h3 h4 => ?_⟩
  rw [h2 q (Nat.lt_of_lt_of_le h3 hS.1)]
  exact hS.2.1 q h3 h4
theorem so_throw {x ik ic : Nat} {names : List String} (h0 : M.2.2.2.2.2.1 = []) (hcls : Bundle.fit (ac_xn x) = true) (hnames : ∀ n ∈ names, Bundle.fit n = true) (hw : ∀ w ∈ Cond.classLink M.1 ik (ac_xn x) :: Cond.initialized (ac_xn x) :: vx_at0 M.1 ic (ac_xn x) names, w ∈ ac_gw ∨ w ∈ ac_ng) (d0 : decode M.2.2.1 pc = .ok (.new ik, 3)) (d3 : decode M.2.2.1 (pc + 3) = .ok (.dup, 1)) (d4 : decode M.2.2.1 (pc + 4) = .ok (.invokespecial ic, 3)) (d7 : decode M.2.2.1 (pc + 7) = .ok (.athrow, 1)) (hRm : names.length + 3 < M.2.2.2.2.2.2.frames ∧ 13 * (names.length + 1) + 42 ≤ M.2.2.2.2.2.2.locals) : ac_So M scr pc (op_throw M.2.2.2.2.2.2 x) := by
  intro p l e s m args below meth c base D A Q G lv st ah k n h H locs ls hR hS hL
  obtain ⟨hlt, hx, hb, hml, hr, hown, hts, hlk, htab, hK, hbs, hmn, hsc⟩ := G
  obtain ⟨hQ, hk, hn, rfl⟩ := h
  have hat := ac_hat hts hK hw
  refine vx_throw0 hx hb hlt hown hcls hnames (hat _ List.mem_cons_self) (hat _ (List.mem_cons_of_mem _ List.mem_cons_self)) (fun w hw' => hat w (List.mem_cons_of_mem _ (List.mem_cons_of_mem _ hw'))) (ac_ot hw) hK.2.1 hK.2.2.1 hS (hL.1.trans hml.symm) d0 d3 d4 d7 (fun z hz => ?_) hRm.1 (by simpa using hRm.2) hk hn hlk (fun t hvm h1 h2 => ?_) hS.2.2 hk hn
  · rw [htab, h0] at hz; cases hz
  · obtain ⟨q1, q2⟩ := ac_kept hR hS h1 h2
    exact ⟨x, ah, rfl, hQ, q1, q2⟩
theorem so_npe (h0 : M.2.2.2.2.2.1 = []) (hw : ∀ w ∈ vx_atN 8, w ∈ ac_gw ∨ w ∈ ac_ng) (hd : decode M.2.2.1 pc = .ok (.arraylength, 1)) (hRm : 7 < M.2.2.2.2.2.2.frames ∧ 10240 ≤ M.2.2.2.2.2.2.locals) : ac_So M scr pc (op_npe M.2.2.2.2.2.2) := by
  intro p l e s m args below meth c base D A Q G lv st ah k n h H locs ls hR hS hL
  obtain ⟨hlt, hx, hb, hml, hr, hown, hts, hlk, htab, hK, hbs, hmn, hsc⟩ := G
  obtain ⟨rfl, hQ, hk, hn⟩ := h
  refine vx_arraylengthN hx hb hd (vx_npe hx hlt (nb := 8) (ac_hat hts hK hw) (ac_ot hw) hK.2.1 hK.2.2.1 hS (hL.1.trans hml.symm) hRm.1 (by simpa using hRm.2) hk hn hlk (fun H1 q9 ce z1 z2 z3 z4 z5 z6 => ?_))
  refine vx_out (fun z hz => ?_) hlk z4 z5 z6 (fun t ht hvm => ?_) z3.2.2 hk hn
  · rw [htab, h0] at hz; cases hz
  · obtain ⟨q1, q2⟩ := ac_kept (t := t) hR hS (by rw [ht]; exact z1) (fun q hq => by rw [ht]; exact z2 q hq)
    exact ⟨1, ah, rfl, hQ, q1, q2⟩
theorem so_nas (h0 : M.2.2.2.2.2.1 = []) {at1 : ArrayType} (hw : ∀ w ∈ vx_atM "java/lang/NegativeArraySizeException" ["java/lang/RuntimeException", "java/lang/Exception"], w ∈ ac_gw ∨ w ∈ ac_ng) (hd : decode M.2.2.1 pc = .ok (.newarray at1, 2)) (hRm : 6 < M.2.2.2.2.2.2.frames ∧ 10240 ≤ M.2.2.2.2.2.2.locals) : ac_So M scr pc (op_nas M.2.2.2.2.2.2) := by
  intro p l e s m args below meth c base D A Q G lv st ah k n h H locs ls hR hS hL
  obtain ⟨hlt, hx, hb, hml, hr, hown, hts, hlk, htab, hK, hbs, hmn, hsc⟩ := G
  obtain ⟨j, r, rfl, rfl, hj, hQ, hk, hn⟩ := ac_i1v h
  refine vx_newarrayZ hx hb hj hd (fun tx htx => vx_vm hx hlt (nb := 212) (names := ["java/lang/RuntimeException", "java/lang/Exception"]) (by decide +kernel) (by decide +kernel) (by decide) (by decide) (ac_hat hts hK hw) (ac_ot hw) hK.2.1 hK.2.2.1 hS (hL.1.trans hml.symm) (by rw [htx]; exact (ac_txI j).2) (by rw [htx]; exact (ac_txI j).1) (by decide) hRm.1 (by simpa using hRm.2) (by decide) hk hn hlk (fun H1 q9 ce z1 z2 z3 z4 z5 z6 => ?_))
  refine vx_out (fun z hz => ?_) hlk z4 z5 z6 (fun t ht hvm => ?_) z3.2.2 hk hn
  · rw [htab, h0] at hz; cases hz
  · obtain ⟨q1, q2⟩ := ac_kept (t := t) hR hS (by rw [ht]; exact z1) (fun q hq => by rw [ht]; exact z2 q hq)
    exact ⟨4, ah, rfl, hQ, q1, q2⟩
theorem so_oob {idx : Nat} (h0 : M.2.2.2.2.2.1 = []) (hw : ∀ w ∈ vx_atM "java/lang/ArrayIndexOutOfBoundsException" ["java/lang/IndexOutOfBoundsException", "java/lang/RuntimeException", "java/lang/Exception"], w ∈ ac_gw ∨ w ∈ ac_ng) (hl : Cond.fieldLink M.1 idx "TypedHall" "NO_ELEMENTS" "[I" ∈ ac_gw) (hd : decode M.2.2.1 pc = .ok (.getstatic idx, 3)) (d3 : decode M.2.2.1 (pc + 3) = .ok (.iload_n 0, 1)) (d4 : decode M.2.2.1 (pc + 4) = .ok (.iaload, 1)) (hRm : 7 < M.2.2.2.2.2.2.frames ∧ 10240 ≤ M.2.2.2.2.2.2.locals) : ac_So M scr pc (op_oob M.2.2.2.2.2.2) := by
  intro p l e s m args below meth c base D A Q G lv st ah k n h H locs ls hR hS hL
  obtain ⟨hlt, hx, hb, hml, hr, hown, hts, hlk, htab, hK, hbs, hmn, hsc⟩ := G
  obtain ⟨v, h1, h2⟩ := ac_ldv h
  obtain ⟨⟨j, rfl⟩, rfl, hQ, hk, hn⟩ := ac_isIv h2
  obtain ⟨zn, z1, z2, z3⟩ := hK.2.2.2.1
  refine va_gets hx hb z1 hS hown (hts _ hl) (fun _ z => z) hd ?_
  refine lv_iload_n hx hb d3 rfl (hL.2.2.2 _ _ h1) ?_
  obtain ⟨cell, e1, e2, e3, e4, -⟩ := z2
  have hcell : H[zn]? = some cell := (hS.2.1 zn (Nat.lt_of_lt_of_le z3 hbs) (fun z => absurd z (Nat.not_le.mpr z3))).trans e1
  have key : ∀ tx : String, tx = (toString "Index " ++ toString j ++ toString " out of bounds for length " ++ toString cell.slots.size) → vx_Note p l e M.2.2.2.2.2.2 s m args below meth c H locs k n (vx_MQ below (ac_Qc base D A Q) (ac_XC base D A Q) args s M.2.2.2.2.2.2.cells M.2.2.2.2.2.2.slots (ac_B base)) (F0 m (pc + 3 + 1) ls []) "java/lang/ArrayIndexOutOfBoundsException" tx := by
    intro tx htx
    refine vx_vm hx hlt (nb := 212) (names := ["java/lang/IndexOutOfBoundsException", "java/lang/RuntimeException", "java/lang/Exception"]) (by decide +kernel) (by decide +kernel) (by decide) (by decide) (ac_hat hts hK hw) (ac_ot hw) hK.2.1 hK.2.2.1 hS (hL.1.trans hml.symm) (by rw [htx]; exact index_text_modelled j _) (by rw [htx]; exact index_text_bytes j (by rw [e4]; decide)) (by decide) hRm.1 (by simpa using hRm.2) (by decide) hk hn hlk (fun H1 q9 ce y1 y2 y3 y4 y5 y6 => ?_)
    refine vx_out (fun z hz => ?_) hlk y4 y5 y6 (fun t ht hvm => ?_) y3.2.2 hk hn
    · rw [htab, h0] at hz; cases hz
    · obtain ⟨q1, q2⟩ := ac_kept (t := t) hR hS (by rw [ht]; exact y1) (fun q hq => by rw [ht]; exact y2 q hq)
      exact ⟨3, ah, rfl, hQ, q1, q2⟩
  intro T hT X
  obtain ⟨t, st, q⟩ := key _ rfl T hT X
  exact ⟨t, X.ialoadOut hx (by rw [hT]; exact hcell) e2 (j := j) (by rw [e4]; exact Or.inr (Nat.zero_le _)) (g := F0 m (pc + 3 + 1) ls [.int j, .ref zn]) rfl (rest := []) rfl (by rw [hb]; exact d4) t st, q⟩
/-- new int[x][y] -/
theorem so_mnew {idx : Nat} (hd : decode M.2.2.1 pc = .ok (.multianewarray idx 2, 4)) (hw : Cond.classLink M.1 idx ("[" ++ (FieldType.array .int).toString) ∈ ac_gw) (hw2 : Cond.arrayClass .int ∈ ac_gw) (hn : pc + 4 = nx) : ac_So M scr pc (op_mnew M.2.2.2.2.2.2 nx) := by
  subst hn
  intro p l e s m args below meth c base D A Q G lv st ah k n h H locs ls hR hS hL
  obtain ⟨hlt, hx, hb, hml, hr, hown, hts, hlk, htab, hK, hbs, hmn, hsc⟩ := G
  obtain ⟨y, r1, rfl, g1⟩ := ac_i1v h
  obtain ⟨x, r, rfl, h1, h2, h3, h4, h5, h6, h7⟩ := ac_i1v g1
  intro T hT X
  have hm : x.toNatClampNeg * y.toNatClampNeg ≤ 6 * 4 := Nat.mul_le_mul h3 h4
  obtain ⟨vm₁, cA, comp, -, fA, fC, hO, -, X', step⟩ := X.multianewarray2F (ty := .int) hx hown (hts _ hw) hK.2.2.2.2.2.2.2 (hts _ hw2) (g := F0 m pc ls (.int y :: .int x :: r)) rfl (by rw [hb]; exact hd) rfl h1 h2 (by omega) (by show y.toNatClampNeg * 4 ≤ _; omega) (by omega) rfl rfl (by omega) (by omega)
  have ecA : cA = A 4 := Option.some.inj (fA.symm.trans (hK.1.2 4 _ rfl).2)
  have ecC : comp = A 0 := Option.some.inj (fC.symm.trans (hK.1.2 0 _ rfl).2)
  subst ecA
  subst ecC
  generalize hF : Jvm.Free.Multi.fill (T.setVm vm₁) (A 4) (A 0) x.toNatClampNeg y.toNatClampNeg (defaultValue .int) x.toNatClampNeg = F at X' step
  have hTh : (T.setVm vm₁).heap = H := hT
  obtain ⟨f1, f2, -, -⟩ := Jvm.Free.Multi.fill_facts (T.setVm vm₁) (A 4) (A 0) x.toNatClampNeg y.toNatClampNeg (defaultValue .int) x.toNatClampNeg
  rw [hF, hTh] at f1 f2
  have hold : ∀ z : Nat, z < H.size → F.heap[z]? = H[z]? := fun z hz => by
    have := Jvm.Free.Multi.fill_old (T.setVm vm₁) (A 4) (A 0) x.toNatClampNeg y.toNatClampNeg (defaultValue .int) (a := z) (by rw [hTh]; exact hz) x.toNatClampNeg
    rw [hF, hTh] at this
    exact this
  have hrow : ∀ j : Nat, j < x.toNatClampNeg → F.heap[H.size + 1 + j]? = some (arrV (A 0) y.toNatClampNeg (fun _ => .int 0)) := fun j hj => by
    have := Jvm.Free.Multi.fill_inner (T.setVm vm₁) (A 4) (A 0) x.toNatClampNeg y.toNatClampNeg (defaultValue .int) x.toNatClampNeg j hj
    rw [hF, hTh] at this
    rw [this]
    show some ({ cls := A 0, slots := Array.replicate y.toNatClampNeg (.int 0), vm := .none } : Cell) = _
    rw [arrV_new]
  have vro : ∀ i : Nat, Jvm.Free.Multi.outerC (A 4) x.toNatClampNeg H.size i = arrV (A 4) x.toNatClampNeg (fun j => va_rf (if j < i then some (H.size + 1 + j) else none)) := by
    intro i
    induction i with
    | zero =>
      show ({ cls := A 4, slots := Array.replicate x.toNatClampNeg .null, vm := .none } : Cell) = _
      rw [arrV_new]
      refine congrArg (arrV (A 4) x.toNatClampNeg) (funext fun j => ?_)
      simp [va_rf]
    | succ i ih =>
      show (Jvm.Free.Multi.outerC (A 4) x.toNatClampNeg H.size i).setSlot i (.ref (H.size + 1 + i)) = _
      rw [ih, arrV_store]
      refine congrArg (arrV (A 4) x.toNatClampNeg) (funext fun j => ?_)
      by_cases q : j = i
      · subst q
        simp [updV, va_rf]
      · by_cases h : j < i
        · simp [updV, q, h, Nat.lt_succ_of_lt h]
        · simp [updV, q, h, show ¬ j < i + 1 by omega]
  rw [vro] at f2
  have hlt9 : ∀ (a : Nat) (z : ac_E), ah a = some z → a < H.size := fun a z h => (hR.2 a z h).2.lt
  have hfr : ∀ j, j ≤ x.toNatClampNeg → ah (H.size + j) = none := fun j hj => by
    cases hc : ah (H.size + j) with
    | none => rfl
    | some z => have := hlt9 _ _ hc; omega
  have hR1 : ac_Rep base D A (ac_mh ah H.size x.toNatClampNeg y.toNatClampNeg) F.heap := by
    refine ⟨by rw [f1]; have := hR.1; omega, fun a z hz => ?_⟩
    unfold ac_mh at hz
    by_cases q : a = H.size
    · subst q
      rw [if_pos rfl] at hz
      cases hz
      exact ⟨hR.1, f2⟩
    · rw [if_neg q] at hz
      by_cases q2 : H.size < a ∧ a ≤ H.size + x.toNatClampNeg
      · rw [if_pos q2] at hz
        cases hz
        obtain ⟨j, rfl⟩ : ∃ j, a = H.size + 1 + j := ⟨a - H.size - 1, by omega⟩
        exact ⟨by have := hR.1; omega, hrow j (by omega)⟩
      · rw [if_neg q2] at hz
        exact ⟨(hR.2 a z hz).1, (hR.2 a z hz).2.kept (hold a (hlt9 a z hz))⟩
  have hS1 : va_S (ac_B base) s.heap F.heap locs := ⟨by rw [f1]; have := hS.1; omega, fun z g1 g2 => (hold z (Nat.lt_of_lt_of_le g1 hS.1)).trans (hS.2.1 z g1 g2), hS.2.2⟩
  obtain ⟨t, a1, b1⟩ := h7 H.size hfr F.heap locs ls hR1 hS1 hL F rfl (stand_widen X' (by omega) (by omega))
  refine ⟨t, step t ?_, b1⟩
  have e9 : T.heap.size = H.size := by rw [hT]
  rw [e9]
  exact a1
end ACT
-- the entry
theorem ac_padv : ∀ {n : Nat} {K : ac_V → Prop}, ac_pad n K → K (List.replicate n none)
  | 0, K, h => h
  | n + 1, K, h => by
    have := ac_padv (n := n) (K := fun t => K (none :: t)) h
    exact this
theorem ac_entv : ∀ {as : List Value} {n : Nat} {K : ac_V → Prop}, ac_ent as n K → ∃ lv, K lv ∧ lv.length = n ∧ (lg_sl as).length ≤ n ∧ ∀ (i j : Nat) (w : Value), lv[j]? = some (some w) → (i + j, w) ∈ lv_args i as
  | [], n, K, h => by
    have h : ac_pad n K := by cases n <;> exact h
    refine ⟨_, ac_padv h, by simp, by simp [lg_sl], fun i j w hj => ?_⟩
    rw [List.getElem?_replicate] at hj
    split at hj <;> simp at hj
  | .int x :: t, n + 1, K, h => by
    obtain ⟨lv, h1, h2, h3, h4⟩ := ac_entv (as := t) (n := n) h
    refine ⟨some (.int x) :: lv, h1, by simp [h2], by simp [lg_sl, Value.category] at h3 ⊢; omega, fun i j w hj => ?_⟩
    match j, hj with
    | 0, hj =>
      have e : Value.int x = w := by simpa using hj
      subst e
      exact List.mem_cons_self
    | j + 1, hj =>
      have := h4 (i + 1) j w (by simpa using hj)
      rw [show i + 1 + j = i + (j + 1) by omega] at this
      exact List.mem_cons_of_mem _ this
  | .ref x :: t, n + 1, K, h => by
    obtain ⟨lv, h1, h2, h3, h4⟩ := ac_entv (as := t) (n := n) h
    refine ⟨some (.ref x) :: lv, h1, by simp [h2], by simp [lg_sl, Value.category] at h3 ⊢; omega, fun i j w hj => ?_⟩
    match j, hj with
    | 0, hj =>
      have e : Value.ref x = w := by simpa using hj
      subst e
      exact List.mem_cons_self
    | j + 1, hj =>
      have := h4 (i + 1) j w (by simpa using hj)
      rw [show i + 1 + j = i + (j + 1) by omega] at this
      exact List.mem_cons_of_mem _ this
  | .null :: t, n + 1, K, h => by
    obtain ⟨lv, h1, h2, h3, h4⟩ := ac_entv (as := t) (n := n) h
    refine ⟨some .null :: lv, h1, by simp [h2], by simp [lg_sl, Value.category] at h3 ⊢; omega, fun i j w hj => ?_⟩
    match j, hj with
    | 0, hj =>
      have e : Value.null = w := by simpa using hj
      subst e
      exact List.mem_cons_self
    | j + 1, hj =>
      have := h4 (i + 1) j w (by simpa using hj)
      rw [show i + 1 + j = i + (j + 1) by omega] at this
      exact List.mem_cons_of_mem _ this
  | .long x :: t, n + 2, K, h => by
    obtain ⟨lv, h1, h2, h3, h4⟩ := ac_entv (as := t) (n := n) h
    refine ⟨some (.long x) :: none :: lv, h1, by simp [h2], by simp [lg_sl, Value.category] at h3 ⊢; omega, fun i j w hj => ?_⟩
    match j, hj with
    | 0, hj =>
      have e : Value.long x = w := by simpa using hj
      subst e
      exact List.mem_cons_self
    | 1, hj => simp at hj
    | j + 2, hj =>
      have := h4 (i + 2) j w (by simpa using hj)
      rw [show i + 2 + j = i + (j + 2) by omega] at this
      exact List.mem_cons_of_mem _ this
  | .long x :: t, 1, K, h => False.elim h
  | .long x :: t, 0, K, h => False.elim h
  | .int x :: t, 0, K, h => False.elim h
  | .ref x :: t, 0, K, h => False.elim h
  | .null :: t, 0, K, h => False.elim h
  | .float x :: t, n, K, h => by cases n <;> first | exact False.elim h | (rename_i n; cases n <;> exact False.elim h)
  | .double x :: t, n, K, h => by cases n <;> first | exact False.elim h | (rename_i n; cases n <;> exact False.elim h)
  | .retAddr x :: t, n, K, h => by cases n <;> first | exact False.elim h | (rename_i n; cases n <;> exact False.elim h)
theorem ac_lkv {code : List (Nat × ac_op)} {pc : Nat} {P : ac_P} {Q : ac_Q} {lv : ac_V} {st : List Value} {ah : ac_H} {k n : Nat} (h : ac_lk code pc P Q lv st ah k n) : ∃ op, (pc, op) ∈ code ∧ op P Q lv st ah k n := by
  induction code with
  | nil => exact False.elim h
  | cons x t ih =>
    have h : cond (Nat.beq x.1 pc) x.2 (ac_lk t pc) P Q lv st ah k n := h
    cases hc : Nat.beq x.1 pc with
    | true =>
      rw [hc] at h
      have e := Nat.eq_of_beq_eq_true hc
      subst e
      exact ⟨x.2, List.mem_cons_self, h⟩
    | false =>
      rw [hc] at h
      obtain ⟨op, h1, h2⟩ := ih h
      exact ⟨op, List.mem_cons_of_mem _ h1, h2⟩
/-- the walk of a method's body -/
theorem ac_body {M : ac_D} {scr : Nat → Nat → (Nat → Int32) → Prop} {code : List (Nat × ac_op)} {p : Program} {l : Launch} {e : Env} {s : State} {m : MethodId} {below : List Frame} {meth : Method} {c : Code} {base : Nat} {D : va_G} {A : Nat → ClassId} {as : List Value} {ah : ac_H} {Q : ac_Q} (hso : ∀ x ∈ code, ac_So M scr x.1 x.2) (G : ac_G l p s m as.toArray meth c M base D A scr) (hR : ac_Rep base D A ah s.heap) (hT : ac_vc code M.2.2.2.1 as ah Q) :
    W p l e M.2.2.2.2.2.2 s m as.toArray below meth c s.heap [] 0 0 (vx_MQ below (ac_Qc base D A Q) (ac_XC base D A Q) as.toArray s M.2.2.2.2.2.2.cells M.2.2.2.2.2.2.slots (ac_B base)) (entryFrame m as.toArray M.2.2.2.1) := by
  have h := hT (ac_W p l e s m as.toArray below meth c M.2.2.2.1 M.2.2.2.2.2.2 base D A Q) (fun pc lv st h k n hl => by
    obtain ⟨op, h1, h2⟩ := ac_lkv hl
    exact hso _ h1 p l e s m as.toArray below meth c base D A Q G lv st h k n h2)
  obtain ⟨lv, h1, h2, h3, h4⟩ := ac_entv h
  have hl := lv_entry as (n := M.2.2.2.1) h3
  rw [lg_entry_eq]
  exact h1 s.heap [] _ hR va_S.rf ⟨hl.1, hl.2.1, h2, fun j w hj => by
    have := h4 0 j w hj
    rw [Nat.zero_add] at this
    exact hl.2.2 (j, w) this⟩
theorem ac_meth {y : MethodName} {M : ac_D} {code : List (Nat × ac_op)} (hy : plainName y.cls = true) (hown : M.1 = y.cls) (hmn : M.2.1 = y.name) (h0 : M.2.2.2.2.2.1 = []) (hw : ac_ws y M = Cond.code y M.2.2.1 M.2.2.2.1 M.2.2.2.2.1 :: ac_gw) (hso : ∀ x ∈ code, ac_So M (fun _ _ _ => False) x.1 x.2) : ac_Ct y M (ac_vc code M.2.2.2.1) := by
  intro l base D A as ah Q hl hT
  refine vx_ofW (cc := M.2.2.1) (maxL := M.2.2.2.1) (ret := M.2.2.2.2.1) hy hw ?_
  intro p e s m args below meth c s₁ B hml hex hv
  obtain ⟨rfl, hR, hK, hbs⟩ := hv
  have hts := atoms_spec (ws := ac_ws y M) B.pre
  refine ac_body (scr := fun _ _ _ => False) hso ⟨hl, B.exec, B.bytes, hml, B.returns, by rw [hown]; exact findClass_of_methodNamed B.named, fun w hw' => hts w (List.mem_cons_of_mem _ hw'), B.notSynchronized, ?_, hK, hbs, by rw [hmn]; exact (name_of_methodNamed B.named B.method).1, fun _ _ _ h => False.elim h⟩ hR hT
  rw [h0]
  exact List.eq_nil_iff_forall_not_mem.mpr (fun x hx => hex x hx)
theorem ac_methH {y : MethodName} {M : ac_D} {code : List (Nat × ac_op)} (hy : plainName y.cls = true) (hown : M.1 = y.cls) (hmn : M.2.1 = y.name) (hw : ac_ws y M = Cond.codeWith y M.2.2.1 M.2.2.2.1 M.2.2.2.2.1 M.2.2.2.2.2.1 :: ac_gw) (hso : ∀ x ∈ code, ac_So M (fun _ _ _ => False) x.1 x.2) : ac_Ct y M (ac_vc code M.2.2.2.1) := by
  intro l base D A as ah Q hl hT
  refine vx_ofWH (cc := M.2.2.1) (maxL := M.2.2.2.1) (ret := M.2.2.2.2.1) (hh := M.2.2.2.2.2.1) hy hw ?_
  intro p e s m args below meth c s₁ B hml hv
  obtain ⟨rfl, hR, hK, hbs⟩ := hv
  have hts := atoms_spec (ws := ac_ws y M) B.pre
  exact ac_body (scr := fun _ _ _ => False) hso ⟨hl, B.exec, B.bytes, hml, B.returns, by rw [hown]; exact findClass_of_methodNamed B.named, fun w hw' => hts w (List.mem_cons_of_mem _ hw'), B.notSynchronized, vx_table (x := y) B (hts _ (by rw [hw]; exact List.mem_cons_self)), hK, hbs, by rw [hmn]; exact (name_of_methodNamed B.named B.method).1, fun _ _ _ h => False.elim h⟩ hR hT
