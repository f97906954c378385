/-! ===== straight instructions and branches ===== -/
section ACA
variable {M : ac_D} {scr : Nat → Nat → (Nat → Int32) → Prop} {pc nx tg : Nat}
theorem so_iconst {i : Int} {v : Int32} (hd : decode M.2.2.1 pc = .ok (.iconst i, 1)) (hv : Int32.ofInt i = v) (hn : pc + 1 = nx) : ac_So M scr pc (op_push (.int v) nx) := by
  subst hn
  intro p l e s m args below meth c base D A Q G lv st ah k n h H locs ls hR hS hL
  obtain ⟨-, hx, hb, -⟩ := G
  exact lv_iconst hx hb hd hv (h H locs ls hR hS hL)
theorem so_bipush {i : Int} {v : Int32} (hd : decode M.2.2.1 pc = .ok (.bipush i, 2)) (hv : (Int8.ofInt i).toInt32 = v) (hn : pc + 2 = nx) : ac_So M scr pc (op_push (.int v) nx) := by
  subst hn
  intro p l e s m args below meth c base D A Q G lv st ah k n h H locs ls hR hS hL
  obtain ⟨-, hx, hb, -⟩ := G
  exact lv_bipush hx hb hd hv (h H locs ls hR hS hL)
theorem so_sipush {i : Int} {v : Int32} (hd : decode M.2.2.1 pc = .ok (.sipush i, 3)) (hv : (Int16.ofInt i).toInt32 = v) (hn : pc + 3 = nx) : ac_So M scr pc (op_push (.int v) nx) := by
  subst hn
  intro p l e s m args below meth c base D A Q G lv st ah k n h H locs ls hR hS hL
  obtain ⟨-, hx, hb, -⟩ := G
  exact lv_sipush hx hb hd hv (h H locs ls hR hS hL)
theorem so_lconst {i : Fin 2} {v : Int64} (hd : decode M.2.2.1 pc = .ok (.lconst i, 1)) (hv : Int64.ofNat (i : Nat) = v) (hn : pc + 1 = nx) : ac_So M scr pc (op_push (.long v) nx) := by
  subst hn
  intro p l e s m args below meth c base D A Q G lv st ah k n h H locs ls hR hS hL
  obtain ⟨-, hx, hb, -⟩ := G
  exact lv_lconst hx hb hd hv (h H locs ls hR hS hL)
theorem so_null (hd : decode M.2.2.1 pc = .ok (.aconst_null, 1)) (hn : pc + 1 = nx) : ac_So M scr pc (op_push .null nx) := by
  subst hn
  intro p l e s m args below meth c base D A Q G lv st ah k n h H locs ls hR hS hL
  obtain ⟨-, hx, hb, -⟩ := G
  exact lv_null hx hb hd (h H locs ls hR hS hL)
theorem so_ldc2 {i : Nat} {v : Int64} (hd : decode M.2.2.1 pc = .ok (.ldc2_w i, 3)) (hw : Cond.constantLong M.1 i v ∈ ac_gw) (hn : pc + 3 = nx) : ac_So M scr pc (op_push (.long v) nx) := by
  subst hn
  intro p l e s m args below meth c base D A Q G lv st ah k n h H locs ls hR hS hL
  obtain ⟨-, hx, hb, -, -, hown, hts, -⟩ := G
  exact lv_ldc2 hx hb hown (hts _ hw) hd (h H locs ls hR hS hL)
theorem so_iload {i : Nat} (hd : decode M.2.2.1 pc = .ok (.iload i, 2)) (hn : pc + 2 = nx) : ac_So M scr pc (op_iload i nx) := by
  subst hn
  intro p l e s m args below meth c base D A Q G lv st ah k n h H locs ls hR hS hL
  obtain ⟨-, hx, hb, -⟩ := G
  obtain ⟨v, h1, h2⟩ := ac_ldv h
  obtain ⟨⟨x, rfl⟩, h⟩ := ac_isIv h2
  exact lv_iload hx hb hd (hL.2.2.2 _ _ h1) (h H locs ls hR hS hL)
theorem so_iload_n {i : Fin 4} {j : Nat} (hd : decode M.2.2.1 pc = .ok (.iload_n i, 1)) (hi : (i : Nat) = j) (hn : pc + 1 = nx) : ac_So M scr pc (op_iload j nx) := by
  subst hn
  intro p l e s m args below meth c base D A Q G lv st ah k n h H locs ls hR hS hL
  obtain ⟨-, hx, hb, -⟩ := G
  obtain ⟨v, h1, h2⟩ := ac_ldv h
  obtain ⟨⟨x, rfl⟩, h⟩ := ac_isIv h2
  exact lv_iload_n hx hb hd hi (hL.2.2.2 _ _ h1) (h H locs ls hR hS hL)
theorem so_lload {i : Nat} (hd : decode M.2.2.1 pc = .ok (.lload i, 2)) (hn : pc + 2 = nx) : ac_So M scr pc (op_lload i nx) := by
  subst hn
  intro p l e s m args below meth c base D A Q G lv st ah k n h H locs ls hR hS hL
  obtain ⟨-, hx, hb, -⟩ := G
  obtain ⟨v, h1, h2⟩ := ac_ldv h
  obtain ⟨⟨x, rfl⟩, h⟩ := ac_isLv h2
  exact lv_lload hx hb hd (hL.2.2.2 _ _ h1) (h H locs ls hR hS hL)
theorem so_lload_n {i : Fin 4} {j : Nat} (hd : decode M.2.2.1 pc = .ok (.lload_n i, 1)) (hi : (i : Nat) = j) (hn : pc + 1 = nx) : ac_So M scr pc (op_lload j nx) := by
  subst hn
  intro p l e s m args below meth c base D A Q G lv st ah k n h H locs ls hR hS hL
  obtain ⟨-, hx, hb, -⟩ := G
  obtain ⟨v, h1, h2⟩ := ac_ldv h
  obtain ⟨⟨x, rfl⟩, h⟩ := ac_isLv h2
  exact lv_lload_n hx hb hd hi (hL.2.2.2 _ _ h1) (h H locs ls hR hS hL)
theorem so_aload {i : Nat} (hd : decode M.2.2.1 pc = .ok (.aload i, 2)) (hn : pc + 2 = nx) : ac_So M scr pc (op_aload i nx) := by
  subst hn
  intro p l e s m args below meth c base D A Q G lv st ah k n h H locs ls hR hS hL
  obtain ⟨-, hx, hb, -⟩ := G
  obtain ⟨v, h1, h2⟩ := ac_ldv h
  obtain ⟨h3, h⟩ := ac_isAv h2
  rcases h3 with rfl | ⟨x, rfl⟩
  · exact lv_aloadN hx hb hd (hL.2.2.2 _ _ h1) (h H locs ls hR hS hL)
  · exact lv_aload hx hb hd (hL.2.2.2 _ _ h1) (h H locs ls hR hS hL)
theorem so_aload_n {i : Fin 4} {j : Nat} (hd : decode M.2.2.1 pc = .ok (.aload_n i, 1)) (hi : (i : Nat) = j) (hn : pc + 1 = nx) : ac_So M scr pc (op_aload j nx) := by
  subst hn
  intro p l e s m args below meth c base D A Q G lv st ah k n h H locs ls hR hS hL
  obtain ⟨-, hx, hb, -⟩ := G
  obtain ⟨v, h1, h2⟩ := ac_ldv h
  obtain ⟨h3, h⟩ := ac_isAv h2
  rcases h3 with rfl | ⟨x, rfl⟩
  · exact lv_aload_nN hx hb hd hi (hL.2.2.2 _ _ h1) (h H locs ls hR hS hL)
  · exact lv_aload_n hx hb hd hi (hL.2.2.2 _ _ h1) (h H locs ls hR hS hL)
theorem so_istore {i : Nat} (hd : decode M.2.2.1 pc = .ok (.istore i, 2)) (hn : pc + 2 = nx) : ac_So M scr pc (op_istore i nx) := by
  subst hn
  intro p l e s m args below meth c base D A Q G lv st ah k n h H locs ls hR hS hL
  obtain ⟨-, hx, hb, -⟩ := G
  obtain ⟨x, r, rfl, h⟩ := ac_i1v h
  obtain ⟨lv', hs, h⟩ := ac_st1v h
  exact lv_istore hx hb hd hL.has (by rw [← hL.2.2.1]; exact hs.2.1) rfl (fun ls' hh => h H locs ls' hR hS (hL.st1 hs hh))
theorem so_istore_n {i : Fin 4} {j : Nat} (hd : decode M.2.2.1 pc = .ok (.istore_n i, 1)) (hi : (i : Nat) = j) (hn : pc + 1 = nx) : ac_So M scr pc (op_istore j nx) := by
  subst hn
  intro p l e s m args below meth c base D A Q G lv st ah k n h H locs ls hR hS hL
  obtain ⟨-, hx, hb, -⟩ := G
  obtain ⟨x, r, rfl, h⟩ := ac_i1v h
  obtain ⟨lv', hs, h⟩ := ac_st1v h
  exact lv_istore_n hx hb hd hi hL.has (by rw [← hL.2.2.1]; exact hs.2.1) rfl (fun ls' hh => h H locs ls' hR hS (hL.st1 hs hh))
theorem so_lstore {i : Nat} (hd : decode M.2.2.1 pc = .ok (.lstore i, 2)) (hn : pc + 2 = nx) : ac_So M scr pc (op_lstore i nx) := by
  subst hn
  intro p l e s m args below meth c base D A Q G lv st ah k n h H locs ls hR hS hL
  obtain ⟨-, hx, hb, -⟩ := G
  obtain ⟨x, r, rfl, h⟩ := ac_l1v h
  obtain ⟨lv', hs, h⟩ := ac_st2v h
  exact lv_lstore hx hb hd hL.has (by rw [← hL.2.2.1]; exact hs.2.1) rfl (fun ls' hh => h H locs ls' hR hS (hL.st2 hs hh))
theorem so_lstore_n {i : Fin 4} {j : Nat} (hd : decode M.2.2.1 pc = .ok (.lstore_n i, 1)) (hi : (i : Nat) = j) (hn : pc + 1 = nx) : ac_So M scr pc (op_lstore j nx) := by
  subst hn
  intro p l e s m args below meth c base D A Q G lv st ah k n h H locs ls hR hS hL
  obtain ⟨-, hx, hb, -⟩ := G
  obtain ⟨x, r, rfl, h⟩ := ac_l1v h
  obtain ⟨lv', hs, h⟩ := ac_st2v h
  exact lv_lstore_n hx hb hd hi hL.has (by rw [← hL.2.2.1]; exact hs.2.1) rfl (fun ls' hh => h H locs ls' hR hS (hL.st2 hs hh))
theorem so_astore {i : Nat} (hd : decode M.2.2.1 pc = .ok (.astore i, 2)) (hn : pc + 2 = nx) : ac_So M scr pc (op_astore i nx) := by
  subst hn
  intro p l e s m args below meth c base D A Q G lv st ah k n h H locs ls hR hS hL
  obtain ⟨-, hx, hb, -⟩ := G
  rcases ac_n1v h with ⟨r, rfl, h⟩ | ⟨x, r, rfl, h⟩
  · obtain ⟨lv', hs, h⟩ := ac_st1v h
    exact lv_astoreN hx hb hd hL.has (by rw [← hL.2.2.1]; exact hs.2.1) rfl (fun ls' hh => h H locs ls' hR hS (hL.st1 hs hh))
  · obtain ⟨lv', hs, h⟩ := ac_st1v h
    exact lv_astore hx hb hd hL.has (by rw [← hL.2.2.1]; exact hs.2.1) rfl (fun ls' hh => h H locs ls' hR hS (hL.st1 hs hh))
theorem so_astore_n {i : Fin 4} {j : Nat} (hd : decode M.2.2.1 pc = .ok (.astore_n i, 1)) (hi : (i : Nat) = j) (hn : pc + 1 = nx) : ac_So M scr pc (op_astore j nx) := by
  subst hn
  intro p l e s m args below meth c base D A Q G lv st ah k n h H locs ls hR hS hL
  obtain ⟨-, hx, hb, -⟩ := G
  rcases ac_n1v h with ⟨r, rfl, h⟩ | ⟨x, r, rfl, h⟩
  · obtain ⟨lv', hs, h⟩ := ac_st1v h
    exact lv_astore_nN hx hb hd hi hL.has (by rw [← hL.2.2.1]; exact hs.2.1) rfl (fun ls' hh => h H locs ls' hR hS (hL.st1 hs hh))
  · obtain ⟨lv', hs, h⟩ := ac_st1v h
    exact lv_astore_n hx hb hd hi hL.has (by rw [← hL.2.2.1]; exact hs.2.1) rfl (fun ls' hh => h H locs ls' hR hS (hL.st1 hs hh))
theorem so_iinc {i : Nat} {d : Int} {dv : Int32} (hd : decode M.2.2.1 pc = .ok (.iinc i d, 3)) (hv : Int32.ofInt d = dv) (hn : pc + 3 = nx) : ac_So M scr pc (op_iinc i dv nx) := by
  subst hn
  intro p l e s m args below meth c base D A Q G lv st ah k n h H locs ls hR hS hL
  obtain ⟨-, hx, hb, -⟩ := G
  obtain ⟨v, h1, h2⟩ := ac_ldv h
  obtain ⟨x, r, hr, h⟩ := ac_i1v h2
  cases hr
  obtain ⟨lv', hs, h⟩ := ac_st1v h
  have hm := ac_pr_of (i := 0) h1
  rw [Nat.zero_add] at hm
  obtain ⟨q, hq⟩ := List.getElem?_of_mem hm
  exact lv_iinc hx hb hd hL.has hq (by rw [hv]) (by rw [← hL.2.2.1]; exact hs.2.1) rfl (fun ls' hh => h H locs ls' hR hS (hL.st1 hs hh))
theorem so_iadd (hd : decode M.2.2.1 pc = .ok (.iadd, 1)) (hn : pc + 1 = nx) : ac_So M scr pc (op_ii (fun x y => x + y) nx) := by
  subst hn
  intro p l e s m args below meth c base D A Q G lv st ah k n h H locs ls hR hS hL
  obtain ⟨-, hx, hb, -⟩ := G
  obtain ⟨y, r1, rfl, g1⟩ := ac_i1v h
  obtain ⟨x, r2, rfl, g2⟩ := ac_i1v g1
  exact lv_iadd hx hb hd (g2 H locs ls hR hS hL)
theorem so_isub (hd : decode M.2.2.1 pc = .ok (.isub, 1)) (hn : pc + 1 = nx) : ac_So M scr pc (op_ii (fun x y => x - y) nx) := by
  subst hn
  intro p l e s m args below meth c base D A Q G lv st ah k n h H locs ls hR hS hL
  obtain ⟨-, hx, hb, -⟩ := G
  obtain ⟨y, r1, rfl, g1⟩ := ac_i1v h
  obtain ⟨x, r2, rfl, g2⟩ := ac_i1v g1
  exact lv_isub hx hb hd (g2 H locs ls hR hS hL)
theorem so_imul (hd : decode M.2.2.1 pc = .ok (.imul, 1)) (hn : pc + 1 = nx) : ac_So M scr pc (op_ii (fun x y => x * y) nx) := by
  subst hn
  intro p l e s m args below meth c base D A Q G lv st ah k n h H locs ls hR hS hL
  obtain ⟨-, hx, hb, -⟩ := G
  obtain ⟨y, r1, rfl, g1⟩ := ac_i1v h
  obtain ⟨x, r2, rfl, g2⟩ := ac_i1v g1
  exact lv_imul hx hb hd (g2 H locs ls hR hS hL)
theorem so_iand (hd : decode M.2.2.1 pc = .ok (.iand, 1)) (hn : pc + 1 = nx) : ac_So M scr pc (op_ii (fun x y => x &&& y) nx) := by
  subst hn
  intro p l e s m args below meth c base D A Q G lv st ah k n h H locs ls hR hS hL
  obtain ⟨-, hx, hb, -⟩ := G
  obtain ⟨y, r1, rfl, g1⟩ := ac_i1v h
  obtain ⟨x, r2, rfl, g2⟩ := ac_i1v g1
  exact lv_iand hx hb hd (g2 H locs ls hR hS hL)
theorem so_ladd (hd : decode M.2.2.1 pc = .ok (.ladd, 1)) (hn : pc + 1 = nx) : ac_So M scr pc (op_ll (fun x y => x + y) nx) := by
  subst hn
  intro p l e s m args below meth c base D A Q G lv st ah k n h H locs ls hR hS hL
  obtain ⟨-, hx, hb, -⟩ := G
  obtain ⟨y, r1, rfl, g1⟩ := ac_l1v h
  obtain ⟨x, r2, rfl, g2⟩ := ac_l1v g1
  exact lv_ladd hx hb hd (g2 H locs ls hR hS hL)
theorem so_lsub (hd : decode M.2.2.1 pc = .ok (.lsub, 1)) (hn : pc + 1 = nx) : ac_So M scr pc (op_ll (fun x y => x - y) nx) := by
  subst hn
  intro p l e s m args below meth c base D A Q G lv st ah k n h H locs ls hR hS hL
  obtain ⟨-, hx, hb, -⟩ := G
  obtain ⟨y, r1, rfl, g1⟩ := ac_l1v h
  obtain ⟨x, r2, rfl, g2⟩ := ac_l1v g1
  exact lv_lsub hx hb hd (g2 H locs ls hR hS hL)
theorem so_lmul (hd : decode M.2.2.1 pc = .ok (.lmul, 1)) (hn : pc + 1 = nx) : ac_So M scr pc (op_ll (fun x y => x * y) nx) := by
  subst hn
  intro p l e s m args below meth c base D A Q G lv st ah k n h H locs ls hR hS hL
  obtain ⟨-, hx, hb, -⟩ := G
  obtain ⟨y, r1, rfl, g1⟩ := ac_l1v h
  obtain ⟨x, r2, rfl, g2⟩ := ac_l1v g1
  exact lv_lmul hx hb hd (g2 H locs ls hR hS hL)
theorem so_land (hd : decode M.2.2.1 pc = .ok (.land, 1)) (hn : pc + 1 = nx) : ac_So M scr pc (op_ll (fun x y => x &&& y) nx) := by
  subst hn
  intro p l e s m args below meth c base D A Q G lv st ah k n h H locs ls hR hS hL
  obtain ⟨-, hx, hb, -⟩ := G
  obtain ⟨y, r1, rfl, g1⟩ := ac_l1v h
  obtain ⟨x, r2, rfl, g2⟩ := ac_l1v g1
  exact lv_land hx hb hd (g2 H locs ls hR hS hL)
theorem so_lor (hd : decode M.2.2.1 pc = .ok (.lor, 1)) (hn : pc + 1 = nx) : ac_So M scr pc (op_ll (fun x y => x ||| y) nx) := by
  subst hn
  intro p l e s m args below meth c base D A Q G lv st ah k n h H locs ls hR hS hL
  obtain ⟨-, hx, hb, -⟩ := G
  obtain ⟨y, r1, rfl, g1⟩ := ac_l1v h
  obtain ⟨x, r2, rfl, g2⟩ := ac_l1v g1
  exact lv_lor hx hb hd (g2 H locs ls hR hS hL)
theorem so_idiv (hd : decode M.2.2.1 pc = .ok (.idiv, 1)) (hn : pc + 1 = nx) : ac_So M scr pc (op_idiv nx) := by
  subst hn
  intro p l e s m args below meth c base D A Q G lv st ah k n h H locs ls hR hS hL
  obtain ⟨-, hx, hb, -⟩ := G
  obtain ⟨y, r1, rfl, g1⟩ := ac_i1v h
  obtain ⟨x, r2, rfl, h0, g2⟩ := ac_i1v g1
  exact lv_idiv hx hb hd h0 (g2 H locs ls hR hS hL)
theorem so_ldiv (hd : decode M.2.2.1 pc = .ok (.ldiv, 1)) (hn : pc + 1 = nx) : ac_So M scr pc (op_ldiv nx) := by
  subst hn
  intro p l e s m args below meth c base D A Q G lv st ah k n h H locs ls hR hS hL
  obtain ⟨-, hx, hb, -⟩ := G
  obtain ⟨y, r1, rfl, g1⟩ := ac_l1v h
  obtain ⟨x, r2, rfl, h0, g2⟩ := ac_l1v g1
  exact lv_ldiv hx hb hd h0 (g2 H locs ls hR hS hL)
theorem so_lrem (hd : decode M.2.2.1 pc = .ok (.lrem, 1)) (hn : pc + 1 = nx) : ac_So M scr pc (op_lrem nx) := by
  subst hn
  intro p l e s m args below meth c base D A Q G lv st ah k n h H locs ls hR hS hL
  obtain ⟨-, hx, hb, -⟩ := G
  obtain ⟨y, r1, rfl, g1⟩ := ac_l1v h
  obtain ⟨x, r2, rfl, h0, g2⟩ := ac_l1v g1
  exact lv_lrem hx hb hd h0 (g2 H locs ls hR hS hL)
theorem so_lshl (hd : decode M.2.2.1 pc = .ok (.lshl, 1)) (hn : pc + 1 = nx) : ac_So M scr pc (op_lshl nx) := by
  subst hn
  intro p l e s m args below meth c base D A Q G lv st ah k n h H locs ls hR hS hL
  obtain ⟨-, hx, hb, -⟩ := G
  obtain ⟨y, r1, rfl, g1⟩ := ac_i1v h
  obtain ⟨x, r2, rfl, g2⟩ := ac_l1v g1
  exact lv_lshl hx hb hd rfl (g2 H locs ls hR hS hL)
theorem so_lcmp (hd : decode M.2.2.1 pc = .ok (.lcmp, 1)) (hn : pc + 1 = nx) : ac_So M scr pc (op_lcmp nx) := by
  subst hn
  intro p l e s m args below meth c base D A Q G lv st ah k n h H locs ls hR hS hL
  obtain ⟨-, hx, hb, -⟩ := G
  obtain ⟨y, r1, rfl, g1⟩ := ac_l1v h
  obtain ⟨x, r2, rfl, g2⟩ := ac_l1v g1
  exact W.lcmp hx hb hd (g2 H locs ls hR hS hL)
theorem so_i2l (hd : decode M.2.2.1 pc = .ok (.i2l, 1)) (hn : pc + 1 = nx) : ac_So M scr pc (op_i (fun x => .long x.toInt64) nx) := by
  subst hn
  intro p l e s m args below meth c base D A Q G lv st ah k n h H locs ls hR hS hL
  obtain ⟨-, hx, hb, -⟩ := G
  obtain ⟨x, r, rfl, h⟩ := ac_i1v h
  exact lv_i2l hx hb hd rfl (h H locs ls hR hS hL)
theorem so_i2b (hd : decode M.2.2.1 pc = .ok (.i2b, 1)) (hn : pc + 1 = nx) : ac_So M scr pc (op_i (fun x => .int x.toInt8.toInt32) nx) := by
  subst hn
  intro p l e s m args below meth c base D A Q G lv st ah k n h H locs ls hR hS hL
  obtain ⟨-, hx, hb, -⟩ := G
  obtain ⟨x, r, rfl, h⟩ := ac_i1v h
  exact lv_i2b hx hb hd rfl (h H locs ls hR hS hL)
theorem so_i2s (hd : decode M.2.2.1 pc = .ok (.i2s, 1)) (hn : pc + 1 = nx) : ac_So M scr pc (op_i (fun x => .int x.toInt16.toInt32) nx) := by
  subst hn
  intro p l e s m args below meth c base D A Q G lv st ah k n h H locs ls hR hS hL
  obtain ⟨-, hx, hb, -⟩ := G
  obtain ⟨x, r, rfl, h⟩ := ac_i1v h
  exact lv_i2s hx hb hd rfl (h H locs ls hR hS hL)
theorem so_i2c (hd : decode M.2.2.1 pc = .ok (.i2c, 1)) (hn : pc + 1 = nx) : ac_So M scr pc (op_i (fun x => .int (x.toUInt32 % 65536).toInt32) nx) := by
  subst hn
  intro p l e s m args below meth c base D A Q G lv st ah k n h H locs ls hR hS hL
  obtain ⟨-, hx, hb, -⟩ := G
  obtain ⟨x, r, rfl, h⟩ := ac_i1v h
  exact lv_i2c hx hb hd rfl (h H locs ls hR hS hL)
theorem so_l2i (hd : decode M.2.2.1 pc = .ok (.l2i, 1)) (hn : pc + 1 = nx) : ac_So M scr pc (op_l (fun x => .int x.toInt32) nx) := by
  subst hn
  intro p l e s m args below meth c base D A Q G lv st ah k n h H locs ls hR hS hL
  obtain ⟨-, hx, hb, -⟩ := G
  obtain ⟨x, r, rfl, h⟩ := ac_l1v h
  exact lv_l2i hx hb hd rfl (h H locs ls hR hS hL)
theorem so_l2f (hd : decode M.2.2.1 pc = .ok (.l2f, 1)) (hn : pc + 1 = nx) : ac_So M scr pc (op_l (fun x => .float (FP.l2f x)) nx) := by
  subst hn
  intro p l e s m args below meth c base D A Q G lv st ah k n h H locs ls hR hS hL
  obtain ⟨-, hx, hb, -⟩ := G
  obtain ⟨x, r, rfl, h⟩ := ac_l1v h
  exact lv_l2f hx hb hd (h H locs ls hR hS hL)
theorem so_l2d (hd : decode M.2.2.1 pc = .ok (.l2d, 1)) (hn : pc + 1 = nx) : ac_So M scr pc (op_l (fun x => .double (FP.l2d x)) nx) := by
  subst hn
  intro p l e s m args below meth c base D A Q G lv st ah k n h H locs ls hR hS hL
  obtain ⟨-, hx, hb, -⟩ := G
  obtain ⟨x, r, rfl, h⟩ := ac_l1v h
  exact lv_l2d hx hb hd (h H locs ls hR hS hL)
theorem so_f2l (hd : decode M.2.2.1 pc = .ok (.f2l, 1)) (hn : pc + 1 = nx) : ac_So M scr pc (op_f2l nx) := by
  subst hn
  intro p l e s m args below meth c base D A Q G lv st ah k n h H locs ls hR hS hL
  obtain ⟨-, hx, hb, -⟩ := G
  match st, h with
  | .float x :: r, h => exact lv_f2l hx hb hd (h H locs ls hR hS hL)
theorem so_d2l (hd : decode M.2.2.1 pc = .ok (.d2l, 1)) (hn : pc + 1 = nx) : ac_So M scr pc (op_d2l nx) := by
  subst hn
  intro p l e s m args below meth c base D A Q G lv st ah k n h H locs ls hR hS hL
  obtain ⟨-, hx, hb, -⟩ := G
  match st, h with
  | .double x :: r, h => exact lv_d2l hx hb hd (h H locs ls hR hS hL)
theorem so_dup (hd : decode M.2.2.1 pc = .ok (.dup, 1)) (hn : pc + 1 = nx) : ac_So M scr pc (op_dup nx) := by
  subst hn
  intro p l e s m args below meth c base D A Q G lv st ah k n h H locs ls hR hS hL
  obtain ⟨-, hx, hb, -⟩ := G
  obtain ⟨x, r, rfl, h⟩ := ac_a1v h
  exact lv_dup hx hb hd rfl (h H locs ls hR hS hL)
theorem so_pop2 (hd : decode M.2.2.1 pc = .ok (.pop2, 1)) (hn : pc + 1 = nx) : ac_So M scr pc (op_pop2 nx) := by
  subst hn
  intro p l e s m args below meth c base D A Q G lv st ah k n h H locs ls hR hS hL
  obtain ⟨-, hx, hb, -⟩ := G
  obtain ⟨x, r, rfl, h⟩ := ac_l1v h
  exact lv_pop2_2 hx hb hd rfl (h H locs ls hR hS hL)
theorem so_if_eq {off : Int} (hd : decode M.2.2.1 pc = .ok (.ifCond .eq off, 3)) (ht : (pc : Int) + off = (tg : Int)) (hn : pc + 3 = nx) : ac_So M scr pc (op_if (fun x => x = 0) tg nx) := by
  subst hn
  intro p l e s m args below meth c base D A Q G lv st ah k n h H locs ls hR hS hL
  obtain ⟨-, hx, hb, -⟩ := G
  obtain ⟨x, r, rfl, h⟩ := ac_i1v h
  exact lv_if_eq hx hb hd ht (fun q => h.1 q H locs ls hR hS hL) (fun q => h.2 q H locs ls hR hS hL)
theorem so_if_ne {off : Int} (hd : decode M.2.2.1 pc = .ok (.ifCond .ne off, 3)) (ht : (pc : Int) + off = (tg : Int)) (hn : pc + 3 = nx) : ac_So M scr pc (op_if (fun x => ¬ x = 0) tg nx) := by
  subst hn
  intro p l e s m args below meth c base D A Q G lv st ah k n h H locs ls hR hS hL
  obtain ⟨-, hx, hb, -⟩ := G
  obtain ⟨x, r, rfl, h⟩ := ac_i1v h
  exact lv_if_ne hx hb hd ht (fun q => h.1 q H locs ls hR hS hL) (fun q => h.2 (fun z => z q) H locs ls hR hS hL)
theorem so_if_lt {off : Int} (hd : decode M.2.2.1 pc = .ok (.ifCond .lt off, 3)) (ht : (pc : Int) + off = (tg : Int)) (hn : pc + 3 = nx) : ac_So M scr pc (op_if (fun x => x < 0) tg nx) := by
  subst hn
  intro p l e s m args below meth c base D A Q G lv st ah k n h H locs ls hR hS hL
  obtain ⟨-, hx, hb, -⟩ := G
  obtain ⟨x, r, rfl, h⟩ := ac_i1v h
  exact lv_if_lt hx hb hd ht (fun q => h.1 q H locs ls hR hS hL) (fun q => h.2 q H locs ls hR hS hL)
theorem so_if_ge {off : Int} (hd : decode M.2.2.1 pc = .ok (.ifCond .ge off, 3)) (ht : (pc : Int) + off = (tg : Int)) (hn : pc + 3 = nx) : ac_So M scr pc (op_if (fun x => 0 ≤ x) tg nx) := by
  subst hn
  intro p l e s m args below meth c base D A Q G lv st ah k n h H locs ls hR hS hL
  obtain ⟨-, hx, hb, -⟩ := G
  obtain ⟨x, r, rfl, h⟩ := ac_i1v h
  exact lv_if_ge hx hb hd ht (fun q => h.1 q H locs ls hR hS hL) (fun q => h.2 q H locs ls hR hS hL)
theorem so_if_gt {off : Int} (hd : decode M.2.2.1 pc = .ok (.ifCond .gt off, 3)) (ht : (pc : Int) + off = (tg : Int)) (hn : pc + 3 = nx) : ac_So M scr pc (op_if (fun x => 0 < x) tg nx) := by
  subst hn
  intro p l e s m args below meth c base D A Q G lv st ah k n h H locs ls hR hS hL
  obtain ⟨-, hx, hb, -⟩ := G
  obtain ⟨x, r, rfl, h⟩ := ac_i1v h
  exact lv_if_gt hx hb hd ht (fun q => h.1 q H locs ls hR hS hL) (fun q => h.2 q H locs ls hR hS hL)
theorem so_if_le {off : Int} (hd : decode M.2.2.1 pc = .ok (.ifCond .le off, 3)) (ht : (pc : Int) + off = (tg : Int)) (hn : pc + 3 = nx) : ac_So M scr pc (op_if (fun x => x ≤ 0) tg nx) := by
  subst hn
  intro p l e s m args below meth c base D A Q G lv st ah k n h H locs ls hR hS hL
  obtain ⟨-, hx, hb, -⟩ := G
  obtain ⟨x, r, rfl, h⟩ := ac_i1v h
  exact lv_if_le hx hb hd ht (fun q => h.1 q H locs ls hR hS hL) (fun q => h.2 q H locs ls hR hS hL)
theorem so_icmp_eq {off : Int} (hd : decode M.2.2.1 pc = .ok (.if_icmp .eq off, 3)) (ht : (pc : Int) + off = (tg : Int)) (hn : pc + 3 = nx) : ac_So M scr pc (op_icmp (fun x y => x = y) tg nx) := by
  subst hn
  intro p l e s m args below meth c base D A Q G lv st ah k n h H locs ls hR hS hL
  obtain ⟨-, hx, hb, -⟩ := G
  obtain ⟨y, r1, rfl, g1⟩ := ac_i1v h
  obtain ⟨x, r2, rfl, g2⟩ := ac_i1v g1
  exact lv_icmp_eq hx hb hd ht (fun q => g2.1 q H locs ls hR hS hL) (fun q => g2.2 q H locs ls hR hS hL)
theorem so_icmp_ne {off : Int} (hd : decode M.2.2.1 pc = .ok (.if_icmp .ne off, 3)) (ht : (pc : Int) + off = (tg : Int)) (hn : pc + 3 = nx) : ac_So M scr pc (op_icmp (fun x y => ¬ x = y) tg nx) := by
  subst hn
  intro p l e s m args below meth c base D A Q G lv st ah k n h H locs ls hR hS hL
  obtain ⟨-, hx, hb, -⟩ := G
  obtain ⟨y, r1, rfl, g1⟩ := ac_i1v h
  obtain ⟨x, r2, rfl, g2⟩ := ac_i1v g1
  exact lv_icmp_ne hx hb hd ht (fun q => g2.1 q H locs ls hR hS hL) (fun q => g2.2 (fun z => z q) H locs ls hR hS hL)
theorem so_icmp_lt {off : Int} (hd : decode M.2.2.1 pc = .ok (.if_icmp .lt off, 3)) (ht : (pc : Int) + off = (tg : Int)) (hn : pc + 3 = nx) : ac_So M scr pc (op_icmp (fun x y => x < y) tg nx) := by
  subst hn
  intro p l e s m args below meth c base D A Q G lv st ah k n h H locs ls hR hS hL
  obtain ⟨-, hx, hb, -⟩ := G
  obtain ⟨y, r1, rfl, g1⟩ := ac_i1v h
  obtain ⟨x, r2, rfl, g2⟩ := ac_i1v g1
  exact lv_icmp_lt hx hb hd ht (fun q => g2.1 q H locs ls hR hS hL) (fun q => g2.2 q H locs ls hR hS hL)
theorem so_icmp_ge {off : Int} (hd : decode M.2.2.1 pc = .ok (.if_icmp .ge off, 3)) (ht : (pc : Int) + off = (tg : Int)) (hn : pc + 3 = nx) : ac_So M scr pc (op_icmp (fun x y => y ≤ x) tg nx) := by
  subst hn
  intro p l e s m args below meth c base D A Q G lv st ah k n h H locs ls hR hS hL
  obtain ⟨-, hx, hb, -⟩ := G
  obtain ⟨y, r1, rfl, g1⟩ := ac_i1v h
  obtain ⟨x, r2, rfl, g2⟩ := ac_i1v g1
  exact lv_icmp_ge hx hb hd ht (fun q => g2.1 q H locs ls hR hS hL) (fun q => g2.2 q H locs ls hR hS hL)
theorem so_icmp_gt {off : Int} (hd : decode M.2.2.1 pc = .ok (.if_icmp .gt off, 3)) (ht : (pc : Int) + off = (tg : Int)) (hn : pc + 3 = nx) : ac_So M scr pc (op_icmp (fun x y => y < x) tg nx) := by
  subst hn
  intro p l e s m args below meth c base D A Q G lv st ah k n h H locs ls hR hS hL
  obtain ⟨-, hx, hb, -⟩ := G
  obtain ⟨y, r1, rfl, g1⟩ := ac_i1v h
  obtain ⟨x, r2, rfl, g2⟩ := ac_i1v g1
  exact lv_icmp_gt hx hb hd ht (fun q => g2.1 q H locs ls hR hS hL) (fun q => g2.2 q H locs ls hR hS hL)
theorem so_icmp_le {off : Int} (hd : decode M.2.2.1 pc = .ok (.if_icmp .le off, 3)) (ht : (pc : Int) + off = (tg : Int)) (hn : pc + 3 = nx) : ac_So M scr pc (op_icmp (fun x y => x ≤ y) tg nx) := by
  subst hn
  intro p l e s m args below meth c base D A Q G lv st ah k n h H locs ls hR hS hL
  obtain ⟨-, hx, hb, -⟩ := G
  obtain ⟨y, r1, rfl, g1⟩ := ac_i1v h
  obtain ⟨x, r2, rfl, g2⟩ := ac_i1v g1
  exact lv_icmp_le hx hb hd ht (fun q => g2.1 q H locs ls hR hS hL) (fun q => g2.2 q H locs ls hR hS hL)
theorem so_goto {off : Int} (hd : decode M.2.2.1 pc = .ok (.goto off, 3)) (ht : (pc : Int) + off = (tg : Int)) : ac_So M scr pc (op_goto tg) := by
  intro p l e s m args below meth c base D A Q G lv st ah k n h H locs ls hR hS hL
  obtain ⟨-, hx, hb, -⟩ := G
  exact lv_goto hx hb hd ht (h H locs ls hR hS hL)
theorem so_ifnull {off : Int} (hd : decode M.2.2.1 pc = .ok (.ifnull off, 3)) (ht : (pc : Int) + off = (tg : Int)) (hn : pc + 3 = nx) : ac_So M scr pc (op_ifnull tg nx) := by
  subst hn
  intro p l e s m args below meth c base D A Q G lv st ah k n h H locs ls hR hS hL
  obtain ⟨-, hx, hb, -⟩ := G
  rcases ac_n1v h with ⟨r, rfl, h⟩ | ⟨x, r, rfl, h⟩
  · exact lv_ifnullN hx hb hd ht (h H locs ls hR hS hL)
  · exact lv_ifnull hx hb hd (h H locs ls hR hS hL)
theorem so_ifnonnull {off : Int} (hd : decode M.2.2.1 pc = .ok (.ifnonnull off, 3)) (ht : (pc : Int) + off = (tg : Int)) (hn : pc + 3 = nx) : ac_So M scr pc (op_ifnonnull tg nx) := by
  subst hn
  intro p l e s m args below meth c base D A Q G lv st ah k n h H locs ls hR hS hL
  obtain ⟨-, hx, hb, -⟩ := G
  rcases ac_n1v h with ⟨r, rfl, h⟩ | ⟨x, r, rfl, h⟩
  · exact lv_ifnonnullN hx hb hd (h H locs ls hR hS hL)
  · exact lv_ifnonnull hx hb hd ht (h H locs ls hR hS hL)
theorem so_acmpne {off : Int} (hd : decode M.2.2.1 pc = .ok (.if_acmp .ne off, 3)) (ht : (pc : Int) + off = (tg : Int)) (hn : pc + 3 = nx) : ac_So M scr pc (op_acmpne tg nx) := by
  subst hn
  intro p l e s m args below meth c base D A Q G lv st ah k n h H locs ls hR hS hL
  obtain ⟨-, hx, hb, -⟩ := G
  rcases ac_n1v h with ⟨r, rfl, g⟩ | ⟨y, r, rfl, g⟩
  · rcases ac_n1v g with ⟨r, rfl, h⟩ | ⟨x, r, rfl, h⟩
    · exact lv_acmp_ne (rx := none) (ry := none) hx hb hd ht (fun q => absurd rfl q) (fun _ => h H locs ls hR hS hL)
    · exact lv_acmp_ne (rx := some x) (ry := none) hx hb hd ht (fun _ => h H locs ls hR hS hL) (fun q => by cases q)
  · rcases ac_n1v g with ⟨r, rfl, h⟩ | ⟨x, r, rfl, h⟩
    · exact lv_acmp_ne (rx := none) (ry := some y) hx hb hd ht (fun _ => h H locs ls hR hS hL) (fun q => by cases q)
    · exact lv_acmp_ne (rx := some x) (ry := some y) hx hb hd ht (fun q => h.1 (fun z => q (by rw [z])) H locs ls hR hS hL) (fun q => h.2 (Option.some.inj q) H locs ls hR hS hL)
theorem ac_swv {P : Nat → Prop} {x : Int32} : ∀ {ts : List Nat} {j i t : Nat}, ac_sw P x j ts → ts[i]? = some t → x = nI (j + i) → P t
  | [], j, i, t, _, ht, _ => by simp at ht
  | a :: ts, j, 0, t, h, ht, hx => by
    have e : a = t := by simpa using ht
    subst e
    exact h.1 (by simpa using hx)
  | a :: ts, j, i + 1, t, h, ht, hx => ac_swv (ts := ts) (j := j + 1) (i := i) h.2 (by simpa using ht) (by rw [hx]; congr 1; omega)
theorem so_switch {dflt hi : Int} {offs : Array Int} {len df : Nat} {ts : List Nat} (hd : decode M.2.2.1 pc = .ok (.tableswitch dflt 0 hi offs, len)) (h1 : hi = (ts.length : Int) - 1) (h2 : offs.toList = ts.map (fun t : Nat => (t : Int) - (pc : Int))) (h3 : (pc : Int) + dflt = (df : Int)) (h4 : ts.length < 2 ^ 31) : ac_So M scr pc (op_switch df ts) := by
  intro p l e s m args below meth c base D A Q G lv st ah k n h H locs ls hR hS hL
  obtain ⟨-, hx, hb, -⟩ := G
  obtain ⟨x, r, rfl, g⟩ := ac_i1v h
  by_cases hlo : x.toInt < 0
  · exact lv_tableOut hx hb hd (Or.inl hlo) h3 (g.2 (Or.inl hlo) H locs ls hR hS hL)
  · by_cases hhi : hi < x.toInt
    · exact lv_tableOut hx hb hd (Or.inr hhi) h3 (g.2 (Or.inr (by omega)) H locs ls hR hS hL)
    · obtain ⟨j, hj, rfl⟩ := nI_of (x := x) (by rw [Int32.lt_iff_toInt_lt]; exact hlo)
      rw [nI_toInt hj] at hhi
      have hjl : j < ts.length := by omega
      have hgo : offs[((nI j).toInt - 0).toNat]? = some ((ts[j] : Int) - (pc : Int)) := by
        rw [nI_toInt hj, ← Array.getElem?_toList, h2]
        simp [hjl]
      exact lv_tableIn (tgt := ts[j]) hx hb hd hlo (by rw [nI_toInt hj]; exact hhi) hgo (by omega) (ac_swv g.1 (i := j) (by simp [hjl]) (by rw [Nat.zero_add]) H locs ls hR hS hL)
end ACA
