/-! ===== the calls' rows ===== -/
section ACX
variable {p : Program} {l : Launch} {e : Env} {R : Room} {s : State} {m : MethodId} {args : Array Value} {below : List Frame} {meth : Method} {c : Code} {H : Heap} {locs : List Loc} {k n : Nat} {pc mc ms : Nat} {ls : Array Slot} {st rest av : List Value} {y : MethodName} {Pc : Array Value → State → Prop} {Qc : Array Value → State → Outcome → State → Prop} {XC : String → State → State → Prop} {free : Addr → Prop} {ig : Instr}
/-- a call, out of the invoking instruction's own step -/
theorem ac_mkRun (hK : vx_Back l R p e below s args y 3 8 (PreOf R mc ms Pc) (PostOf Qc mc ms free) (vx_Post XC mc ms free)) (hsize : ls.size = c.maxLocals) (hW : (rest.map fun v => v.category).sum ≤ 8) (hdg : decode c.code pc = .ok (ig, 3)) (hf : k + mc ≤ R.cells ∧ n + ms ≤ R.slots) (hPc : ∀ U : State, U.heap = H → s.WarmedH U.vm → Pc av.toArray U)
    (hstep : ∀ T : State, T.heap = H → Stand p l e R s m args below meth c T locs k n → ∃ (mk : MethodId) (vm₁ : Vm), s.WarmedH vm₁ ∧ s.methodNamed? y = some mk ∧ ∀ target, (∀ acts, Steps p.tables e below (doInvoke e ((T.setVm vm₁).setTop (F0 m pc ls rest)) acts mk av.toArray).1 target) → Steps p.tables e below (T.setTop (F0 m pc ls st)) target) :
    vx_Run p l e R s m args below meth c H locs k n mc ms (F0 m pc ls st) rest (Qc av.toArray) XC free := by
  intro T hT X
  obtain ⟨mk, vm₁, hW₁, hnamed, hstep₁⟩ := hstep T hT X
  have X₁ := X.noted hW₁
  rcases hK m meth c ⟨T.setVm vm₁, locs, k, n⟩ (F0 m pc ls rest) ig mk av.toArray X₁ rfl hsize hdg (lv_room hW) (X₁.named hnamed) ⟨hf.1, hf.2, hPc (T.setVm vm₁) hT hW₁⟩ with ⟨v, ⟨U', l2, c2, s2⟩, X', ⟨g', mk', t, L, e1, e2, hq, h1, hL, h2, h3⟩, hsteps⟩ | ⟨q, ⟨U', l2, c2, s2⟩, X', ⟨g', mk', t, L, E, ce, e1, e2, hq, hce, hcv, hcl, h1, hL, h2, h3⟩, hsteps⟩
  · dsimp only [Pt.U, Pt.locs, Pt.cells, Pt.slots] at X' e1 e2 h1 h2 h3 hsteps
    subst h1; subst h2; subst h3
    exact Or.inl ⟨v, (T.setVm vm₁).calling g' mk' av.toArray, t, U', L, hT, X', hL, e1, e2, hq, fun target h => hstep₁ _ fun acts => by rw [doInvoke_state]; exact hsteps.trans h⟩
  · dsimp only [Pt.U, Pt.locs, Pt.cells, Pt.slots] at X' e1 e2 h1 h2 h3 hsteps hcl
    subst h1; subst h2; subst h3
    exact Or.inr ⟨q, (T.setVm vm₁).calling g' mk' av.toArray, t, U', L, E, ce, hT, X', hL, e1, e2, hq, hce, hcv, vx_cls hW₁ hcl, hstep₁ _ fun acts => by rw [doInvoke_state]; exact hsteps⟩
end ACX
section ACY
variable {M N : ac_D} {scr : Nat → Nat → (Nat → Int32) → Prop} {pc nx na idx : Nat} {y : MethodName} {T : ac_T}
/-- what the tables say of a callee -/
def ac_cal (M N : ac_D) (y : MethodName) (na : Nat) : Prop := ac_cd y N ∈ ac_gw ∧ Cond.initialized y.cls ∈ ac_gw ∧ (y.cls ≠ "java/lang/invoke/MethodHandle" ∧ y.cls ≠ "java/lang/invoke/VarHandle" ∧ (parseMethodDescriptor y.desc).map (fun d => d.parameters.length) = some na) ∧ (N.2.2.2.2.2.2.frames + 1 ≤ M.2.2.2.2.2.2.frames ∧ 8 + (N.2.2.2.1 + 11) + N.2.2.2.2.2.2.locals ≤ M.2.2.2.2.2.2.locals) ∧ ac_tb M.1 M.2.2.2.2.2.1
theorem ac_len {y : MethodName} {na : Nat} (h : (parseMethodDescriptor y.desc).map (fun d => d.parameters.length) = some na) : ∀ sig, parseMethodDescriptor y.desc = some sig → na = sig.parameters.length := fun sig hs => by
  rw [hs] at h
  exact (Option.some.inj h).symm
theorem ac_blind {base : Nat} {D : va_G} {A : Nat → ClassId} {as : List Value} {ah : ac_H} : FrameBlind (va_Pc as (fun U => ac_Rep base D A ah U.heap ∧ ac_KN base D A U U.heap ∧ base ≤ U.heap.size)) := by
  intro a U g mk h
  obtain ⟨h1, h2, h3, h4⟩ := h
  exact ⟨h1, h2, ac_KN.moved (s := U) (U := U.calling g mk a) (H := U.heap) (State.WarmedH.refl U) (fun _ _ _ => rfl) h4 h3, h4⟩
theorem ac_backN {p : Program} {l : Launch} {e : Env} {s : State} {args : Array Value} {below : List Frame} {base : Nat} {D : va_G} {A : Nat → ClassId} {as : List Value} {ah : ac_H} {Q : ac_Q} (hw : ac_ws y N = Cond.code y N.2.2.1 N.2.2.2.1 N.2.2.2.2.1 :: ac_gw) (hc : ac_cal M N y na) (hts : ∀ w ∈ ac_gw, w.before args s = true)
    (hM : vx_Met l y (ac_ws y N) N.2.2.2.2.2.2 (va_Pc as (fun U => ac_Rep base D A ah U.heap ∧ ac_KN base D A U U.heap ∧ base ≤ U.heap.size)) (ac_Qc base D A Q) (ac_XC base D A Q) N.2.2.2.2.2.2.cells N.2.2.2.2.2.2.slots (ac_B base)) :
    vx_Back l M.2.2.2.2.2.2 p e below s args y 3 8 (PreOf M.2.2.2.2.2.2 N.2.2.2.2.2.2.cells N.2.2.2.2.2.2.slots (va_Pc as (fun U => ac_Rep base D A ah U.heap ∧ ac_KN base D A U U.heap ∧ base ≤ U.heap.size))) (PostOf (ac_Qc base D A Q) N.2.2.2.2.2.2.cells N.2.2.2.2.2.2.slots (ac_B base)) (vx_Post (ac_XC base D A Q) N.2.2.2.2.2.2.cells N.2.2.2.2.2.2.slots (ac_B base)) := by
  obtain ⟨h1, h2, h3, h4, h5⟩ := hc
  exact vx_back (bytes := N.2.2.1) (maxL := N.2.2.2.1) (ret := N.2.2.2.2.1) hM ac_blind rfl rfl h4.1 h4.2 (fun w hw' a' U hW => word_at hW (ac_wsG h1 w hw').2 (hts _ (ac_wsG h1 w hw').1)) (by rw [hw]; exact List.mem_cons_self) (fun a' U hW => word_at hW (ac_gwG _ h2).2 (hts _ h2))
theorem ac_backX {p : Program} {l : Launch} {e : Env} {s : State} {args : Array Value} {below : List Frame} {base : Nat} {D : va_G} {A : Nat → ClassId} {as : List Value} {ah : ac_H} {Q : ac_Q} (hw : ac_ws y N = Cond.codeWith y N.2.2.1 N.2.2.2.1 N.2.2.2.2.1 N.2.2.2.2.2.1 :: ac_gw) (hc : ac_cal M N y na) (hts : ∀ w ∈ ac_gw, w.before args s = true)
    (hM : vx_Met l y (ac_ws y N) N.2.2.2.2.2.2 (va_Pc as (fun U => ac_Rep base D A ah U.heap ∧ ac_KN base D A U U.heap ∧ base ≤ U.heap.size)) (ac_Qc base D A Q) (ac_XC base D A Q) N.2.2.2.2.2.2.cells N.2.2.2.2.2.2.slots (ac_B base)) :
    vx_Back l M.2.2.2.2.2.2 p e below s args y 3 8 (PreOf M.2.2.2.2.2.2 N.2.2.2.2.2.2.cells N.2.2.2.2.2.2.slots (va_Pc as (fun U => ac_Rep base D A ah U.heap ∧ ac_KN base D A U U.heap ∧ base ≤ U.heap.size))) (PostOf (ac_Qc base D A Q) N.2.2.2.2.2.2.cells N.2.2.2.2.2.2.slots (ac_B base)) (vx_Post (ac_XC base D A Q) N.2.2.2.2.2.2.cells N.2.2.2.2.2.2.slots (ac_B base)) := by
  obtain ⟨h1, h2, h3, h4, h5⟩ := hc
  exact vx_backW (bytes := N.2.2.1) (maxL := N.2.2.2.1) (ret := N.2.2.2.2.1) (hh := N.2.2.2.2.2.1) hM ac_blind rfl rfl h4.1 h4.2 (fun w hw' a' U hW => word_at hW (ac_wsG h1 w hw').2 (hts _ (ac_wsG h1 w hw').1)) (by rw [hw]; exact List.mem_cons_self) (fun a' U hW => word_at hW (ac_gwG _ h2).2 (hts _ h2))
/-- behind the call: the continuation -/
theorem ac_done {p : Program} {l : Launch} {e : Env} {s : State} {m : MethodId} {args : Array Value} {below : List Frame} {meth : Method} {c : Code} {base : Nat} {D : va_G} {A : Nat → ClassId} {Q : ac_Q} {lv : ac_V} {st r : List Value} {k n : Nat} {H : Heap} {locs : List Loc} {ls : Array Slot} {rc : Room} {a : Array Value}
    (G : ac_G l p s m args meth c M base D A scr) (htb : ac_tb M.1 M.2.2.2.2.2.1) (hk : k + rc.cells ≤ M.2.2.2.2.2.2.cells) (hn : n + rc.slots ≤ M.2.2.2.2.2.2.slots) (hL : ac_L ls M.2.2.2.1 lv) (hS : va_S (ac_B base) s.heap H locs)
    (hr : vx_Run p l e M.2.2.2.2.2.2 s m args below meth c H locs k n rc.cells rc.slots (F0 m pc ls st) r (ac_Qc base D A (ac_ko M.2.2.2.2.2.1 pc (pc + 3) (ac_W p l e s m args below meth c M.2.2.2.1 M.2.2.2.2.2.2 base D A Q) Q lv r (k + rc.cells) (n + rc.slots)) a) (ac_XC base D A (ac_ko M.2.2.2.2.2.1 pc (pc + 3) (ac_W p l e s m args below meth c M.2.2.2.1 M.2.2.2.2.2.2 base D A Q) Q lv r (k + rc.cells) (n + rc.slots))) (ac_B base)) :
    W p l e M.2.2.2.2.2.2 s m args below meth c H locs k n (vx_MQ below (ac_Qc base D A Q) (ac_XC base D A Q) args s M.2.2.2.2.2.2.cells M.2.2.2.2.2.2.slots (ac_B base)) (F0 m pc ls st) := by
  refine ac_run hr hS (fun v ah' H1 locs1 hq hR1 hS1 => ?_) (fun x ah' H1 locs1 ce q hq hR1 hS1 e1 e2 e3 => ac_kov G htb hk hn hL hq hR1 hS1 e1 e2 e3)
  cases v with
  | none => exact hq H1 locs1 ls hR1 hS1 hL
  | some v => exact hq H1 locs1 ls hR1 hS1 hL
theorem ac_pcU {s : State} {base : Nat} {D : va_G} {A : Nat → ClassId} {as : List Value} {ah : ac_H} {H : Heap} {locs : List Loc} (hbs : base ≤ s.heap.size) (hK : ac_KN base D A s s.heap) (hR : ac_Rep base D A ah H) (hS : va_S (ac_B base) s.heap H locs) : ∀ U : State, U.heap = H → s.WarmedH U.vm → va_Pc as (fun U => ac_Rep base D A ah U.heap ∧ ac_KN base D A U U.heap ∧ base ≤ U.heap.size) as.toArray U := by
  intro U hU hW
  refine ⟨rfl, by rw [hU]; exact hR, ?_, by rw [hU]; exact hR.1⟩
  rw [hU]
  exact ac_KN.moved hW (fun q h1 h2 => hS.2.1 q h1 h2) hbs hK
theorem so_callS (hC : ac_Ct y N T) (hw : ac_ws y N = Cond.code y N.2.2.1 N.2.2.2.1 N.2.2.2.2.1 :: ac_gw) (hc : ac_cal M N y na) (hd : decode M.2.2.1 pc = .ok (.invokestatic idx, 3)) (hl : Cond.methodLink M.1 idx y ∈ ac_gw) (hst : Cond.static y ∈ ac_gw) (hn : pc + 3 = nx) : ac_So M scr pc (op_callS M.2.2.2.2.2.2 M.2.2.2.2.2.1 T N.2.2.2.2.2.2 na pc nx) := by
  subst hn
  intro p l e s m args below meth c base D A Q G lv st ah k n h H locs ls hR hS hL
  obtain ⟨hlt, hx, hb, hml, hr, hown, hts, hlk, htab, hK, hbs, hmn, hsc⟩ := id G
  obtain ⟨as, r, rfl, hlen, h4, h5, h6, h7⟩ := ac_popw h
  have hM := hC l base D A as ah _ hlt h7
  refine ac_done G hc.2.2.2.2 h5 h6 hL hS (ac_mkRun (av := as) (ac_backN hw hc hts hM) (hL.1.trans hml.symm) h4 (by rw [hb]; exact hd) ⟨h5, h6⟩ (ac_pcU hbs hK hR hS) (fun T' hT X => ?_))
  obtain ⟨mk, hnamed⟩ := Cond.code_named (hts _ (by have := hc.1; have e := List.cons.inj hw; rw [← e.1]; exact this))
  obtain ⟨methM, cM, hmethM, hcodeM', -, hlocalsM, -, -, -, hsigM⟩ := Cond.code_spec hnamed (hts _ (by have := hc.1; have e := List.cons.inj hw; rw [← e.1]; exact this))
  have hstatic : methM.isStatic = true := Cond.static_spec hnamed hmethM (hts _ hst)
  obtain ⟨kP, hkP, -⟩ := className_of_methodNamed hnamed
  have hinitP : kP.init = .initialized := Cond.initialized_spec (findClass_of_methodNamed hnamed) hkP (hts _ hc.2.1)
  obtain ⟨vm₁, X₁, hstep₁⟩ := X.invokestatic hx hown (hts _ hl) hnamed hmethM hstatic hkP hinitP ⟨hc.2.2.1.1, hc.2.2.1.2.1⟩ (g := F0 m pc ls (as.reverse ++ r)) rfl (argsL := as) (rest := r) (hlen.trans (ac_len hc.2.2.1.2.2 _ hsigM)) rfl (by rw [hb]; exact hd)
  exact ⟨mk, vm₁, X₁.warmed, hnamed, hstep₁⟩
theorem so_callSX (hC : ac_Ct y N T) (hw : ac_ws y N = Cond.codeWith y N.2.2.1 N.2.2.2.1 N.2.2.2.2.1 N.2.2.2.2.2.1 :: ac_gw) (hc : ac_cal M N y na) (hd : decode M.2.2.1 pc = .ok (.invokestatic idx, 3)) (hl : Cond.methodLink M.1 idx y ∈ ac_gw) (hst : Cond.static y ∈ ac_gw) (hn : pc + 3 = nx) : ac_So M scr pc (op_callS M.2.2.2.2.2.2 M.2.2.2.2.2.1 T N.2.2.2.2.2.2 na pc nx) := by
  subst hn
  intro p l e s m args below meth c base D A Q G lv st ah k n h H locs ls hR hS hL
  obtain ⟨hlt, hx, hb, hml, hr, hown, hts, hlk, htab, hK, hbs, hmn, hsc⟩ := id G
  obtain ⟨as, r, rfl, hlen, h4, h5, h6, h7⟩ := ac_popw h
  have hM := hC l base D A as ah _ hlt h7
  refine ac_done G hc.2.2.2.2 h5 h6 hL hS (ac_mkRun (av := as) (ac_backX hw hc hts hM) (hL.1.trans hml.symm) h4 (by rw [hb]; exact hd) ⟨h5, h6⟩ (ac_pcU hbs hK hR hS) (fun T' hT X => ?_))
  obtain ⟨mk, methM, cM, hnamed, hmethM, hcodeM', -, -, -, -, hsigM⟩ := Cond.codeWith_spec (hts _ (by have := hc.1; have e := List.cons.inj hw; rw [← e.1]; exact this))
  have hstatic : methM.isStatic = true := Cond.static_spec hnamed hmethM (hts _ hst)
  obtain ⟨kP, hkP, -⟩ := className_of_methodNamed hnamed
  have hinitP : kP.init = .initialized := Cond.initialized_spec (findClass_of_methodNamed hnamed) hkP (hts _ hc.2.1)
  obtain ⟨vm₁, X₁, hstep₁⟩ := X.invokestatic hx hown (hts _ hl) hnamed hmethM hstatic hkP hinitP ⟨hc.2.2.1.1, hc.2.2.1.2.1⟩ (g := F0 m pc ls (as.reverse ++ r)) rfl (argsL := as) (rest := r) (hlen.trans (ac_len hc.2.2.1.2.2 _ hsigM.2)) rfl (by rw [hb]; exact hd)
  exact ⟨mk, vm₁, X₁.warmed, hnamed, hstep₁⟩
theorem ac_avs {as r : List Value} {a : Nat} : as.reverse ++ (.ref a :: r) = as.reverse ++ .ref a :: r := rfl
theorem so_callI (hC : ac_Ct y N T) (hw : ac_ws y N = Cond.code y N.2.2.1 N.2.2.2.1 none :: ac_gw) (hw0 : N.2.2.2.2.1 = none) (hc : ac_cal M N y na) (hd : decode M.2.2.1 pc = .ok (.invokespecial idx, 3)) (hl : Cond.methodLink M.1 idx y ∈ ac_gw) (hin : Cond.instanceMethod y ∈ ac_gw) (hy1 : y.name = "<init>") (hn : pc + 3 = nx) : ac_So M scr pc (op_callI M.2.2.2.2.2.2 M.2.2.2.2.2.1 T N.2.2.2.2.2.2 na pc nx) := by
  subst hn
  intro p l e s m args below meth c base D A Q G lv st ah k n h H locs ls hR hS hL
  obtain ⟨hlt, hx, hb, hml, hr, hown, hts, hlk, htab, hK, hbs, hmn, hsc⟩ := id G
  obtain ⟨as, r0, rfl, hlen, g0⟩ := ac_popw h
  obtain ⟨a, r, rfl, h4, h5, h6, h7⟩ := ac_a1v g0
  have hM := hC l base D A (.ref a :: as) ah _ hlt h7
  refine ac_done G hc.2.2.2.2 h5 h6 hL hS (ac_mkRun (av := .ref a :: as) (ac_backN (by rw [hw0]; exact hw) hc hts hM) (hL.1.trans hml.symm) h4 (by rw [hb]; exact hd) ⟨h5, h6⟩ (ac_pcU hbs hK hR hS) (fun T' hT X => ?_))
  have hpl : e.platform.magicAccessors = ({} : Platform).magicAccessors := by rw [X.admits.platform]
  have hcode : (Cond.code y N.2.2.1 N.2.2.2.1 none).before args s = true := hts _ (by have := hc.1; have e := List.cons.inj hw; rw [← e.1]; exact this)
  obtain ⟨mk, methM, cM, kP, vm₁, hnamed, hmethM, hcodeM, -, hlocalsM, -, hkP, -, hW₁, hstep₁⟩ := Steps.initColdArgs (e := e) X.here hx X.warmed hpl hown hy1 ⟨hc.2.2.1.1, hc.2.2.1.2.1⟩ (hts _ hl) (hts _ hin) hcode (f := F0 m pc ls (as.reverse ++ .ref a :: r)) rfl (fun sig hs => hlen.trans (ac_len hc.2.2.1.2.2 sig hs)) rfl (by rw [hb]; exact hd)
  exact ⟨mk, vm₁, hW₁, hnamed, hstep₁⟩
theorem so_callIN {host : String} (hC : ac_Ct y N T) (hw : ac_ws y N = Cond.code y N.2.2.1 N.2.2.2.1 none :: ac_gw) (hw0 : N.2.2.2.2.1 = none) (hc : ac_cal M N y na) (hd : decode M.2.2.1 pc = .ok (.invokespecial idx, 3)) (hl : Cond.methodLinkNest M.1 idx y host ∈ ac_ng) (hin : Cond.instanceMethod y ∈ ac_gw) (hy1 : y.name = "<init>") (hn : pc + 3 = nx) : ac_So M scr pc (op_callI M.2.2.2.2.2.2 M.2.2.2.2.2.1 T N.2.2.2.2.2.2 na pc nx) := by
  subst hn
  intro p l e s m args below meth c base D A Q G lv st ah k n h H locs ls hR hS hL
  obtain ⟨hlt, hx, hb, hml, hr, hown, hts, hlk, htab, hK, hbs, hmn, hsc⟩ := id G
  obtain ⟨as, r0, rfl, hlen, g0⟩ := ac_popw h
  obtain ⟨a, r, rfl, h4, h5, h6, h7⟩ := ac_a1v g0
  have hM := hC l base D A (.ref a :: as) ah _ hlt h7
  refine ac_done G hc.2.2.2.2 h5 h6 hL hS (ac_mkRun (av := .ref a :: as) (ac_backN (by rw [hw0]; exact hw) hc hts hM) (hL.1.trans hml.symm) h4 (by rw [hb]; exact hd) ⟨h5, h6⟩ (ac_pcU hbs hK hR hS) (fun T' hT X => ?_))
  have hpl : e.platform.magicAccessors = ({} : Platform).magicAccessors := by rw [X.admits.platform]
  have hcode : (Cond.code y N.2.2.1 N.2.2.2.1 none).before args s = true := hts _ (by have := hc.1; have e := List.cons.inj hw; rw [← e.1]; exact this)
  obtain ⟨mk, methM, cM, kP, vm₁, hnamed, hmethM, hcodeM, -, hlocalsM, -, hkP, -, hW₁, hstep₁⟩ := Steps.initColdArgsNest (e := e) X.here hx X.warmed hpl hown hy1 ⟨hc.2.2.1.1, hc.2.2.1.2.1⟩ (va_Nw.use rfl (hK.2.2.2.2.2.1 _ hl)) (hts _ hin) hcode (f := F0 m pc ls (as.reverse ++ .ref a :: r)) rfl (fun sig hs => hlen.trans (ac_len hc.2.2.1.2.2 sig hs)) rfl (by rw [hb]; exact hd)
  exact ⟨mk, vm₁, hW₁, hnamed, hstep₁⟩
theorem so_callV {ci : Nat} {rc : vw_C} (hC : ac_Ct y N T) (hw : ac_ws y N = Cond.code y N.2.2.1 N.2.2.2.1 N.2.2.2.2.1 :: ac_gw) (hc : ac_cal M N y na) (hci : vwCl[ci]? = some rc) (hd : decode M.2.2.1 pc = .ok (.invokevirtual idx, 3)) (hl : Cond.methodLink M.1 idx y ∈ ac_gw) (hin : Cond.instanceMethod y ∈ ac_gw) (hse : Cond.selects rc.1 y y ∈ ac_gw) (hn : pc + 3 = nx) : ac_So M scr pc (op_callV M.2.2.2.2.2.2 M.2.2.2.2.2.1 ci T N.2.2.2.2.2.2 na pc nx) := by
  subst hn
  intro p l e s m args below meth c base D A Q G lv st ah k n h H locs ls hR hS hL
  obtain ⟨hlt, hx, hb, hml, hr, hown, hts, hlk, htab, hK, hbs, hmn, hsc⟩ := id G
  obtain ⟨as, r0, rfl, hlen, g0⟩ := ac_popw h
  obtain ⟨a, r, rfl, fs, h1, h4, h5, h6, h7⟩ := ac_a1v g0
  have hM := hC l base D A (.ref a :: as) ah _ hlt h7
  obtain ⟨ws, hP, hD, hin1, -⟩ := ac_fullR hR
  obtain ⟨q0, hq⟩ := hin1 a _ h1
  obtain ⟨cellB, hcB, hoB, hclB⟩ := va_recv (D := D) hK.1 hP hci hq
  refine ac_done G hc.2.2.2.2 h5 h6 hL hS (ac_mkRun (av := .ref a :: as) (ac_backN hw hc hts hM) (hL.1.trans hml.symm) h4 (by rw [hb]; exact hd) ⟨h5, h6⟩ (ac_pcU hbs hK hR hS) (fun T' hT X => ?_))
  obtain ⟨mk, methM, hnamed, hmethM, hstM, habM⟩ := Cond.instanceMethod_spec (hts _ hin)
  obtain ⟨methM', cM, hmethM', -, -, -, -, -, -, hsigM⟩ := Cond.code_spec hnamed (hts _ (by have := hc.1; have e := List.cons.inj hw; rw [← e.1]; exact this))
  cases hmethM.symm.trans hmethM'
  obtain ⟨c2, r2, m2, q1, q2, q3, q4, kP, hkP, hkPi⟩ := Cond.selects_spec (hts _ hse)
  cases hclB.symm.trans q1
  cases (State.methodFound?_of_named hnamed ⟨hc.2.2.1.1, hc.2.2.1.2.1⟩).symm.trans q2
  cases hnamed.symm.trans q3
  have hselP : selectMethod e.platform s.vm cellB.cls mk = .method mk := by rw [Launch.admits_selectMethod X.admits]; exact q4
  obtain ⟨vm₁, X₁, hstep₁⟩ := X.invokevirtual hx hown (hts _ hl) hnamed hmethM hstM hkP hkPi ⟨hc.2.2.1.1, hc.2.2.1.2.1⟩ (a := a) (cell := cellB) (by rw [hT]; exact hcB)
    (fun z h => by rw [h] at hoB; cases hoB) hselP hmethM habM hkP hkPi (g := F0 m pc ls (as.reverse ++ .ref a :: r)) rfl (argsL := as) (rest := r) (hlen.trans (ac_len hc.2.2.1.2.2 _ hsigM)) rfl (by rw [hb]; exact hd)
  exact ⟨mk, vm₁, X₁.warmed, hnamed, hstep₁⟩
/-- one class of a call by the receiver's class -/
def ac_en (M : ac_D) (idx na : Nat) (x : MethodName) (q : Nat × ac_T × Room) : Prop := ∃ (y : MethodName) (N : ac_D) (rc : vw_C), ac_Ct y N q.2.1 ∧ N.2.2.2.2.2.2 = q.2.2 ∧ ac_ws y N = Cond.code y N.2.2.1 N.2.2.2.1 N.2.2.2.2.1 :: ac_gw ∧ ac_cal M N y na ∧ vwCl[q.1]? = some rc ∧ Cond.instanceMethod y ∈ ac_gw ∧ Cond.selects rc.1 x y ∈ ac_gw
theorem ac_vtv {tb : List (Nat × ac_T × Room)} {cj : Nat} {K : ac_T → Room → Prop} (h : ac_vt tb cj K) : ∃ q ∈ tb, q.1 = cj ∧ K q.2.1 q.2.2 := by
  induction tb with
  | nil => exact False.elim h
  | cons q t ih =>
    have h : cond (Nat.beq q.1 cj) (K q.2.1 q.2.2) (ac_vt t cj K) := h
    cases hc : Nat.beq q.1 cj with
    | true =>
      rw [hc] at h
      exact ⟨q, List.mem_cons_self, Nat.eq_of_beq_eq_true hc, h⟩
    | false =>
      rw [hc] at h
      obtain ⟨z, h1, h2⟩ := ih h
      exact ⟨z, List.mem_cons_of_mem _ h1, h2⟩
theorem so_callU {x : MethodName} {tb : List (Nat × ac_T × Room)} (htb : ∀ q ∈ tb, ac_en M idx na x q) (hdecl : (Cond.instanceMethod x ∈ ac_gw ∧ ∃ (b : ByteArray) (k : Nat) (rt : Option FieldType), Cond.code x b k rt ∈ ac_gw) ∨ Cond.declares x ∈ ac_ng) (hsm : Cond.sameMethod x.cls x.cls x.name x.desc ∈ ac_gw) (hxc : x.cls ≠ "java/lang/invoke/MethodHandle" ∧ x.cls ≠ "java/lang/invoke/VarHandle" ∧ (parseMethodDescriptor x.desc).map (fun d => d.parameters.length) = some na) (hd : decode M.2.2.1 pc = .ok (.invokevirtual idx, 3)) (hl : Cond.methodLink M.1 idx x ∈ ac_gw) (hn : pc + 3 = nx) : ac_So M scr pc (op_callU M.2.2.2.2.2.2 M.2.2.2.2.2.1 tb na pc nx) := by
  subst hn
  intro p l e s m args below meth c base D A Q G lv st ah k n h H locs ls hR hS hL
  obtain ⟨hlt, hx, hb, hml, hr, hown, hts, hlk, htab, hK, hbs, hmn, hsc⟩ := id G
  obtain ⟨as, r0, rfl, hlen, g0⟩ := ac_popw h
  obtain ⟨a, r, rfl, cj, fs, h1, g1⟩ := ac_a1v g0
  obtain ⟨q, hqin, rfl, h4, h5, h6, h7⟩ := ac_vtv g1
  obtain ⟨y, N, rc, hC, hrm, hw, hc, hci, hin, hse⟩ := htb q hqin
  have hM := hC l base D A (.ref a :: as) ah _ hlt h7
  obtain ⟨ws, hP, hD, hin1, -⟩ := ac_fullR hR
  obtain ⟨q0, hq⟩ := hin1 a _ h1
  obtain ⟨cellB, hcB, hoB, hclB⟩ := va_recv (D := D) hK.1 hP hci hq
  rw [← hrm] at h5 h6 hM
  refine ac_done (rc := N.2.2.2.2.2.2) G hc.2.2.2.2 h5 h6 hL hS (ac_mkRun (av := .ref a :: as) (ac_backN hw hc hts hM) (hL.1.trans hml.symm) h4 (by rw [hb]; exact hd) ⟨h5, h6⟩ (ac_pcU hbs hK hR hS) (fun T' hT X => ?_))
  have hD0 : va_Decl s ⟨x.cls, x.name, x.desc⟩ := by
    rcases hdecl with ⟨d1, b, k9, rt, d2⟩ | d1
    · exact va_Decl.of (hts _ d1) (hts _ d2)
    · exact va_Decl.abs (hK.2.2.2.2.2.1 _ d1)
  obtain ⟨r9, r, hn, hrm, hstR, hsigR⟩ := hD0
  obtain ⟨cn, ck, r1, hcn, hck, hni, hf, hn1⟩ := Cond.sameMethod_found (hts _ hsm)
  cases hn.symm.trans hn1
  obtain ⟨mk, methM, hnamed, hmethM, -, habM⟩ := Cond.instanceMethod_spec (hts _ hin)
  obtain ⟨c2, r2, m2, q1, q2, q3, q4, kP, hkP, hkPi⟩ := Cond.selects_spec (hts _ hse)
  cases hclB.symm.trans q1
  cases hf.symm.trans q2
  cases hnamed.symm.trans q3
  have hselP : selectMethod e.platform s.vm cellB.cls r9 = .method mk := by rw [Launch.admits_selectMethod X.admits]; exact q4
  obtain ⟨vm₁, X₁, hstep₁⟩ := X.invokevirtualUp hx hown (hts _ hl) (hts _ hsm) ⟨hxc.1, hxc.2.1⟩ hn hrm hstR (a := a) (cell := cellB) (by rw [hT]; exact hcB)
    (fun z h => by rw [h] at hoB; cases hoB) hselP hmethM habM hkP hkPi (g := F0 m pc ls (as.reverse ++ .ref a :: _)) rfl (argsL := as) (rest := _) (hlen.trans (ac_len (y := x) hxc.2.2 _ hsigR)) rfl (by rw [hb]; exact hd)
  exact ⟨mk, vm₁, X₁.warmed, hnamed, hstep₁⟩
theorem so_objinit (hd : decode M.2.2.1 pc = .ok (.invokespecial idx, 3)) (hl : Cond.methodLink M.1 idx Lib.objectInit ∈ ac_gw) (hin : Cond.instanceMethod Lib.objectInit ∈ ac_gw) (hcd : Cond.code Lib.objectInit ⟨#[0xb1]⟩ 1 none ∈ ac_gw) (hR1 : 1 ≤ M.2.2.2.2.2.2.frames ∧ 20 ≤ M.2.2.2.2.2.2.locals) (hn : pc + 3 = nx) : ac_So M scr pc (op_objinit nx) := by
  subst hn
  intro p l e s m args below meth c base D A Q G lv st ah k n h H locs ls hR hS hL
  obtain ⟨hlt, hx, hb, hml, hr, hown, hts, hlk, htab, hK, hbs, hmn, hsc⟩ := id G
  obtain ⟨a, r, rfl, h4, h5⟩ := ac_a1v h
  refine W.objInit hx hb hown (hts _ hl) (hts _ hin) (hts _ hcd) rfl (hL.1.trans hml.symm) rfl hd hR1.1 ?_ ?_
  · have h9 := lv_room (m := m) (pc := pc) (ls := ls) (rest := r) (ac_room h4)
    have := hR1.2
    show 2 * (F0 m pc ls r).monitorRoom + _ + 12 ≤ _
    omega
  · exact h5 H locs ls hR hS hL
end ACY
