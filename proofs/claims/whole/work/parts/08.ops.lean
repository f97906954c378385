/-! ===== returns, the heap, calls, throws: the abstract side ===== -/
def op_ireturn (R : Room) : ac_op := fun _ Q _ st h k n => ac_i1 st (fun x r => r = [] ∧ Q (.inl (some (.int x))) h ∧ k ≤ R.cells ∧ n ≤ R.slots)
def op_zreturn (R : Room) : ac_op := fun _ Q _ st h k n => ac_i1 st (fun x r => r = [] ∧ (x = 0 ∨ x = 1) ∧ Q (.inl (some (.int x))) h ∧ k ≤ R.cells ∧ n ≤ R.slots)
def op_lreturn (R : Room) : ac_op := fun _ Q _ st h k n => ac_l1 st (fun x r => r = [] ∧ Q (.inl (some (.long x))) h ∧ k ≤ R.cells ∧ n ≤ R.slots)
def op_areturn (R : Room) : ac_op := fun _ Q _ st h k n => ac_n1 st (fun r => r = [] ∧ Q (.inl (some .null)) h ∧ k ≤ R.cells ∧ n ≤ R.slots) (fun x r => r = [] ∧ Q (.inl (some (.ref x))) h ∧ k ≤ R.cells ∧ n ≤ R.slots)
def op_return (R : Room) : ac_op := fun _ Q _ st h k n => st = [] ∧ Q (.inl none) h ∧ k ≤ R.cells ∧ n ≤ R.slots
/-- new E(); dup; its constructor; athrow -/
def op_throw (R : Room) (x : Nat) : ac_op := fun _ Q _ st h k n => Q (.inr x) h ∧ k + 1 ≤ R.cells ∧ n + 6 ≤ R.slots ∧ st = []
/-- the length of null -/
def op_npe (R : Room) : ac_op := fun _ Q _ st h k n => st = [.null] ∧ Q (.inr 1) h ∧ k + 1 ≤ R.cells ∧ n + 8 ≤ R.slots
/-- an element of the empty row: static, index, load -/
def op_oob (R : Room) : ac_op := fun _ Q lv st h k n => ac_ld lv 0 (fun v => ac_isI v (st = [] ∧ Q (.inr 3) h ∧ k + 3 ≤ R.cells ∧ n + 222 ≤ R.slots))
/-- a new row of a negative length -/
def op_nas (R : Room) : ac_op := fun _ Q _ st h k n => ac_i1 st (fun x r => r = [] ∧ x < 0 ∧ Q (.inr 4) h ∧ k + 3 ≤ R.cells ∧ n + 222 ≤ R.slots)
/-- which kind of value a field of a class holds: 0 int, 1 long, 2 reference -/
def ac_fk : Nat → Nat → Nat
  | 4, 0 => 2
  | 5, 0 => 1
  | 5, 1 => 2
  | 6, 0 => 0
  | 6, 1 => 2
  | 6, 2 => 2
  | 7, 0 => 2
  | 7, 1 => 0
  | 7, 2 => 0
  | 8, 0 => 2
  | 8, 1 => 0
  | 9, 8 => 0
  | 9, 9 => 0
  | 9, 10 => 0
  | 9, 11 => 0
  | 9, 0 => 2
  | 9, 1 => 2
  | 9, 2 => 2
  | 9, 3 => 2
  | 9, 4 => 2
  | 9, 5 => 2
  | 9, 6 => 2
  | 9, 7 => 2
  | _, _ => 3
def ac_kv : Nat → Value → Prop → Prop
  | 0, .int _, X => X
  | 1, .long _, X => X
  | 2, .ref _, X => X
  | 2, .null, X => X
  | _, _, _ => False
def ac_gf : List Value → Nat → (Value → Prop) → Prop
  | v :: _, 0, K => K v
  | _ :: t, i + 1, K => ac_gf t i K
  | [], _, _ => False
def ac_sf : List Value → Nat → Value → (List Value → Prop) → Prop
  | _ :: t, 0, v, K => K (v :: t)
  | a :: t, i + 1, v, K => ac_sf t i v (fun t' => K (a :: t'))
  | [], _, _, _ => False
def op_get (ci f nx : Nat) : ac_op := fun P _ lv st h k n => ac_a1 st (fun a r => ∃ fs : List Value, h a = some (.inl (ci, fs)) ∧ ac_gf fs f (fun v => P nx lv (v :: r) h k n))
def op_put (ci f nx : Nat) : ac_op := fun P _ lv st h k n => match st with
  | v :: st => ac_a1 st (fun a r => ∃ fs : List Value, h a = some (.inl (ci, fs)) ∧ ac_kv (ac_fk ci f) v (ac_sf fs f v (fun fs' => P nx lv r (ac_hs h a (.inl (ci, fs'))) k n)))
  | _ => False
def op_iald (nx : Nat) : ac_op := fun P _ lv st h k n => ac_i1 st (fun i r => ac_a1 r (fun a r => ∃ (z : Nat) (f : Nat → Int32), h a = some (.inr (0, z, .inl f)) ∧ vp_in i z ∧ P nx lv (.int (f i.toNatClampNeg) :: r) h k n))
def op_zald (nx : Nat) : ac_op := fun P _ lv st h k n => ac_i1 st (fun i r => ac_a1 r (fun a r => ∃ (z : Nat) (f : Nat → Int32), h a = some (.inr (1, z, .inl f)) ∧ vp_in i z ∧ P nx lv (.int (f i.toNatClampNeg) :: r) h k n))
def op_lald (nx : Nat) : ac_op := fun P _ lv st h k n => ac_i1 st (fun i r => ac_a1 r (fun a r => ∃ (z : Nat) (f : Nat → Int64), h a = some (.inr (2, z, .inr (.inl f))) ∧ vp_in i z ∧ P nx lv (.long (f i.toNatClampNeg) :: r) h k n))
/-- t: 3 rows of items, 4 rows of rows -/
def op_aald (t nx : Nat) : ac_op := fun P _ lv st h k n => ac_i1 st (fun i r => ac_a1 r (fun a r => ∃ (z : Nat) (f : Nat → Option Nat), h a = some (.inr (t, z, .inr (.inr f))) ∧ vp_in i z ∧ (f i.toNatClampNeg = none → P nx lv (.null :: r) h k n) ∧ ∀ q, f i.toNatClampNeg = some q → P nx lv (.ref q :: r) h k n))
def op_iast (nx : Nat) : ac_op := fun P _ lv st h k n => ac_i1 st (fun x r => ac_i1 r (fun i r => ac_a1 r (fun a r => ∃ (z : Nat) (f : Nat → Int32), h a = some (.inr (0, z, .inl f)) ∧ vp_in i z ∧ P nx lv r (ac_hs h a (.inr (0, z, .inl (upd f i.toNatClampNeg x)))) k n)))
def op_zast (nx : Nat) : ac_op := fun P _ lv st h k n => ac_i1 st (fun x r => ac_i1 r (fun i r => ac_a1 r (fun a r => ∃ (z : Nat) (f : Nat → Int32), h a = some (.inr (1, z, .inl f)) ∧ vp_in i z ∧ (x = 0 ∨ x = 1) ∧ P nx lv r (ac_hs h a (.inr (1, z, .inl (upd f i.toNatClampNeg x)))) k n)))
def op_last (nx : Nat) : ac_op := fun P _ lv st h k n => ac_l1 st (fun x r => ac_i1 r (fun i r => ac_a1 r (fun a r => ∃ (z : Nat) (f : Nat → Int64), h a = some (.inr (2, z, .inr (.inl f))) ∧ vp_in i z ∧ P nx lv r (ac_hs h a (.inr (2, z, .inr (.inl (vp_updL f i.toNatClampNeg x))))) k n)))
def ac_item : Nat → Prop → Prop
  | 4, X => X
  | 5, X => X
  | 6, X => X
  | 7, X => X
  | _, _ => False
def op_aast (t nx : Nat) : ac_op := fun P _ lv st h k n => ac_n1 st (fun r => ac_i1 r (fun i r => ac_a1 r (fun a r => ∃ (z : Nat) (f : Nat → Option Nat), h a = some (.inr (t, z, .inr (.inr f))) ∧ vp_in i z ∧ P nx lv r (ac_hs h a (.inr (t, z, .inr (.inr (va_up f i.toNatClampNeg none))))) k n))) (fun v r => ac_i1 r (fun i r => ac_a1 r (fun a r => t = 3 ∧ ∃ (z : Nat) (f : Nat → Option Nat) (ci : Nat) (fs : List Value), h a = some (.inr (3, z, .inr (.inr f))) ∧ h v = some (.inl (ci, fs)) ∧ ac_item ci (vp_in i z ∧ P nx lv r (ac_hs h a (.inr (3, z, .inr (.inr (va_up f i.toNatClampNeg (some v)))))) k n))))
def op_alen (t nx : Nat) : ac_op := fun P _ lv st h k n => ac_a1 st (fun a r => ∃ (z : Nat) (f : ac_C), h a = some (.inr (t, z, f)) ∧ P nx lv (.int (nI z) :: r) h k n)
/-- the law's own script -/
def op_sld (scr : Nat → Nat → (Nat → Int32) → Prop) (nx : Nat) : ac_op := fun P _ lv st h k n => ac_i1 st (fun i r => ac_a1 r (fun a r => ∃ (z : Nat) (f : Nat → Int32), scr a z f ∧ vp_in i z ∧ P nx lv (.int (f i.toNatClampNeg) :: r) h k n))
def op_slen (scr : Nat → Nat → (Nat → Int32) → Prop) (nx : Nat) : ac_op := fun P _ lv st h k n => ac_a1 st (fun a r => ∃ (z : Nat) (f : Nat → Int32), scr a z f ∧ P nx lv (.int (nI z) :: r) h k n)
/-- a new row of t: 0 ints, 1 booleans, 2 longs, 3 items; w bounds its length -/
def ac_zero : Nat → ac_C
  | 0 => .inl (fun _ => 0)
  | 1 => .inl (fun _ => 0)
  | 2 => .inr (.inl (fun _ => 0))
  | _ => .inr (.inr (fun _ => none))
def op_newa (R : Room) (t nx : Nat) : ac_op := fun P _ lv st h k n => ac_i1 st (fun m r => ¬ m < 0 ∧ ∃ w : Nat, m.toNatClampNeg ≤ w ∧ w ≤ 65536 ∧ k + 1 ≤ R.cells ∧ n + w ≤ R.slots ∧ ∀ q : Nat, h q = none → P nx lv (.ref q :: r) (ac_hs h q (.inr (t, m.toNatClampNeg, ac_zero t))) (k + 1) (n + w))
/-- the fields of a new object -/
def ac_fr : Nat → List Value
  | 4 => [.null]
  | 5 => [.long 0, .null]
  | 6 => [.int 0, .null, .null]
  | 7 => [.null, .int 0, .int 0]
  | 8 => [.null, .int 0]
  | 9 => [.null, .null, .null, .null, .null, .null, .null, .null, .int 0, .int 0, .int 0, .int 0]
  | _ => []
def ac_nf : Nat → Nat
  | 4 => 1
  | 5 => 2
  | 6 => 3
  | 7 => 3
  | 8 => 2
  | 9 => 12
  | _ => 0
def op_new (R : Room) (ci nx : Nat) : ac_op := fun P _ lv st h k n => k + 1 ≤ R.cells ∧ n + ac_nf ci ≤ R.slots ∧ ∀ q : Nat, h q = none → P nx lv (.ref q :: st) (ac_hs h q (.inl (ci, ac_fr ci))) (k + 1) (n + ac_nf ci)
/-- a new grid of rows: the outer row at q, the inner ones behind it -/
def ac_mh (h : ac_H) (q N K : Nat) : ac_H := fun a => if a = q then some (.inr (4, N, .inr (.inr (fun j => if j < N then some (q + 1 + j) else none)))) else if q < a ∧ a ≤ q + N then some (.inr (0, K, .inl (fun _ => 0))) else h a
def op_mnew (R : Room) (nx : Nat) : ac_op := fun P _ lv st h k n => ac_i1 st (fun y r => ac_i1 r (fun x r => ¬ x < 0 ∧ ¬ y < 0 ∧ x.toNatClampNeg ≤ 6 ∧ y.toNatClampNeg ≤ 4 ∧ k + 7 ≤ R.cells ∧ n + 30 ≤ R.slots ∧ ∀ q : Nat, (∀ j, j ≤ x.toNatClampNeg → h (q + j) = none) → P nx lv (.ref q :: r) (ac_mh h q x.toNatClampNeg y.toNatClampNeg) (k + 7) (n + 30)))
def op_inst (ci nx : Nat) : ac_op := fun P _ lv st h k n => ac_n1 st (fun r => P nx lv (.int 0 :: r) h k n) (fun a r => ∃ (cj : Nat) (fs : List Value), h a = some (.inl (cj, fs)) ∧ ac_item cj (cond (Nat.beq cj ci) (P nx lv (.int 1 :: r) h k n) (P nx lv (.int 0 :: r) h k n)))
def op_cast (ci nx : Nat) : ac_op := fun P _ lv st h k n => ac_n1 st (fun r => P nx lv (.null :: r) h k n) (fun a r => ∃ fs : List Value, h a = some (.inl (ci, fs)) ∧ P nx lv (.ref a :: r) h k n)
-- calls
def ac_pop : Nat → List Value → List Value → (List Value → List Value → Prop) → Prop
  | 0, st, acc, K => K acc st
  | i + 1, v :: st, acc, K => ac_pop i st (v :: acc) K
  | _, _, _, _ => False
/-- which exception a row of the law's table of constants names -/
def ac_cx : Nat → Nat
  | 13 => 0
  | 27 => 1
  | 29 => 2
  | 41 => 3
  | 15 => 4
  | 31 => 5
  | 64 => 6
  | _ => 7
def ac_fnd : List (Nat × Nat × Nat × Nat) → Nat → Nat → Option Nat
  | [], _, _ => none
  | q :: r, pc, x => cond (Nat.ble q.1 pc && (Nat.ble (pc + 1) q.2.1 && Nat.beq (ac_cx q.2.2.2) x)) (some q.2.2.1) (ac_fnd r pc x)
def ac_hx : Option Nat → Prop → (Nat → Prop) → Prop
  | none, N, _ => N
  | some t, _, K => K t
/-- behind a call: it returned, or it threw x: caught by a row of the table, or on to the caller -/
def ac_ko (hh : List (Nat × Nat × Nat × Nat)) (pc nx : Nat) (P : ac_P) (Q : ac_Q) (lv : ac_V) (r : List Value) (k n : Nat) : ac_Q := fun o h => match o with
  | .inl none => P nx lv r h k n
  | .inl (some v) => P nx lv (v :: r) h k n
  | .inr x => x < 7 ∧ ac_hx (ac_fnd hh pc x) (Q (.inr x) h) (fun t => ∀ a : Nat, P t lv [.ref a] h k n)
/-- a call with these arguments -/
def ac_call (R : Room) (hh : List (Nat × Nat × Nat × Nat)) (pc nx : Nat) (T : ac_T) (rc : Room) (P : ac_P) (Q : ac_Q) (lv : ac_V) (as r : List Value) (h : ac_H) (k n : Nat) : Prop :=
  (r.map fun v => v.category).sum ≤ 8 ∧ k + rc.cells ≤ R.cells ∧ n + rc.slots ≤ R.slots ∧ T as h (ac_ko hh pc nx P Q lv r (k + rc.cells) (n + rc.slots))
def op_callS (R : Room) (hh : List (Nat × Nat × Nat × Nat)) (T : ac_T) (rc : Room) (na pc nx : Nat) : ac_op := fun P Q lv st h k n => ac_pop na st [] (fun as r => ac_call R hh pc nx T rc P Q lv as r h k n)
/-- a constructor, or a method of a known class -/
def op_callI (R : Room) (hh : List (Nat × Nat × Nat × Nat)) (T : ac_T) (rc : Room) (na pc nx : Nat) : ac_op := fun P Q lv st h k n => ac_pop na st [] (fun as r => ac_a1 r (fun a r => ac_call R hh pc nx T rc P Q lv (.ref a :: as) r h k n))
def op_callV (R : Room) (hh : List (Nat × Nat × Nat × Nat)) (ci : Nat) (T : ac_T) (rc : Room) (na pc nx : Nat) : ac_op := fun P Q lv st h k n => ac_pop na st [] (fun as r => ac_a1 r (fun a r => ∃ fs : List Value, h a = some (.inl (ci, fs)) ∧ ac_call R hh pc nx T rc P Q lv (.ref a :: as) r h k n))
def ac_vt : List (Nat × ac_T × Room) → Nat → (ac_T → Room → Prop) → Prop
  | [], _, _ => False
  | q :: t, cj, K => cond (Nat.beq q.1 cj) (K q.2.1 q.2.2) (ac_vt t cj K)
/-- by the receiver's class -/
def op_callU (R : Room) (hh : List (Nat × Nat × Nat × Nat)) (tb : List (Nat × ac_T × Room)) (na pc nx : Nat) : ac_op := fun P Q lv st h k n => ac_pop na st [] (fun as r => ac_a1 r (fun a r => ∃ (cj : Nat) (fs : List Value), h a = some (.inl (cj, fs)) ∧ ac_vt tb cj (fun T rc => ac_call R hh pc nx T rc P Q lv (.ref a :: as) r h k n)))
def op_objinit (nx : Nat) : ac_op := fun P _ lv st h k n => ac_a1 st (fun _ r => r.length ≤ 4 ∧ P nx lv r h k n)
