/-! ===== the abstract machine: what an instruction asks, over an abstract heap; no number of the machine's own stands in it ===== -/
abbrev ac_C : Type := (Nat → Int32) ⊕ ((Nat → Int64) ⊕ (Nat → Option Nat))
abbrev ac_E : Type := (Nat × List Value) ⊕ (Nat × Nat × ac_C)
abbrev ac_H : Type := Nat → Option ac_E
abbrev ac_V : Type := List (Option Value)
abbrev ac_O : Type := Option Value ⊕ Nat
abbrev ac_Q : Type := ac_O → ac_H → Prop
abbrev ac_K : Type := ac_V → List Value → ac_H → Nat → Nat → Prop
abbrev ac_P : Type := Nat → ac_K
abbrev ac_op : Type := ac_P → ac_Q → ac_K
abbrev ac_T : Type := List Value → ac_H → ac_Q → Prop
def ac_hs (h : ac_H) (a : Nat) (e : ac_E) : ac_H := fun q => if q = a then some e else h q
def ac_xn : Nat → String
  | 0 => "java/lang/IllegalArgumentException"
  | 1 => "java/lang/NullPointerException"
  | 2 => "java/lang/UnsupportedOperationException"
  | 3 => "java/lang/ArrayIndexOutOfBoundsException"
  | 4 => "java/lang/NegativeArraySizeException"
  | 5 => "java/lang/IllegalStateException"
  | _ => "java/lang/ArithmeticException"
def ac_lk : List (Nat × ac_op) → Nat → ac_op
  | [], _ => fun _ _ _ _ _ _ _ => False
  | x :: t, pc => cond (Nat.beq x.1 pc) x.2 (ac_lk t pc)
def ac_pad : Nat → (ac_V → Prop) → Prop
  | 0, K => K []
  | n + 1, K => ac_pad n (fun t => K (none :: t))
def ac_ent : List Value → Nat → (ac_V → Prop) → Prop
  | [], n, K => ac_pad n K
  | .int x :: t, n + 1, K => ac_ent t n (fun l => K (some (.int x) :: l))
  | .ref x :: t, n + 1, K => ac_ent t n (fun l => K (some (.ref x) :: l))
  | .null :: t, n + 1, K => ac_ent t n (fun l => K (some .null :: l))
  | .long x :: t, n + 2, K => ac_ent t n (fun l => K (some (.long x) :: none :: l))
  | _, _, _ => False
/-- what a method with this code asks so that all its ends are in Q -/
def ac_vc (code : List (Nat × ac_op)) (nL : Nat) : ac_T := fun args ah Q =>
  ∀ P : ac_P, (∀ (pc : Nat) (lv : ac_V) (st : List Value) (h : ac_H) (k n : Nat), ac_lk code pc P Q lv st h k n → P pc lv st h k n) → ac_ent args nL (fun lv => P 0 lv [] ah 0 0)
-- locals
def ac_ld : ac_V → Nat → (Value → Prop) → Prop
  | some v :: _, 0, K => K v
  | _ :: t, i + 1, K => ac_ld t i K
  | _, _, _ => False
def ac_c1 : Option Value → Prop → Prop
  | some (.long _), _ => False
  | some (.double _), _ => False
  | _, X => X
def ac_st1 : ac_V → Nat → Value → (ac_V → Prop) → Prop
  | _ :: t, 0, v, K => K (some v :: t)
  | a :: _ :: t, 1, v, K => ac_c1 a (K (a :: some v :: t))
  | a :: t, i + 2, v, K => ac_st1 t (i + 1) v (fun t' => K (a :: t'))
  | _, _, _, _ => False
def ac_t2 : ac_V → Value → (ac_V → Prop) → Prop
  | _ :: _ :: t, v, K => K (some v :: none :: t)
  | _, _, _ => False
def ac_st2 : ac_V → Nat → Value → (ac_V → Prop) → Prop
  | l, 0, v, K => ac_t2 l v K
  | a :: t, 1, v, K => ac_c1 a (ac_t2 t v (fun t' => K (a :: t')))
  | a :: t, i + 2, v, K => ac_st2 t (i + 1) v (fun t' => K (a :: t'))
  | _, _, _, _ => False
-- the stack
def ac_i1 : List Value → (Int32 → List Value → Prop) → Prop
  | .int x :: r, K => K x r
  | _, _ => False
def ac_l1 : List Value → (Int64 → List Value → Prop) → Prop
  | .long x :: r, K => K x r
  | _, _ => False
def ac_a1 : List Value → (Nat → List Value → Prop) → Prop
  | .ref x :: r, K => K x r
  | _, _ => False
def ac_n1 : List Value → (List Value → Prop) → (Nat → List Value → Prop) → Prop
  | .null :: r, N, _ => N r
  | .ref x :: r, _, K => K x r
  | _, _, _ => False
def ac_isI : Value → Prop → Prop
  | .int _, X => X
  | _, _ => False
def ac_isL : Value → Prop → Prop
  | .long _, X => X
  | _, _ => False
def ac_isA : Value → Prop → Prop
  | .ref _, X => X
  | .null, X => X
  | _, _ => False
-- straight instructions
def op_push (v : Value) (nx : Nat) : ac_op := fun P _ lv st h k n => P nx lv (v :: st) h k n
def op_iload (i nx : Nat) : ac_op := fun P _ lv st h k n => ac_ld lv i (fun v => ac_isI v (P nx lv (v :: st) h k n))
def op_lload (i nx : Nat) : ac_op := fun P _ lv st h k n => ac_ld lv i (fun v => ac_isL v (P nx lv (v :: st) h k n))
def op_aload (i nx : Nat) : ac_op := fun P _ lv st h k n => ac_ld lv i (fun v => ac_isA v (P nx lv (v :: st) h k n))
def op_istore (i nx : Nat) : ac_op := fun P _ lv st h k n => ac_i1 st (fun x r => ac_st1 lv i (.int x) (fun lv' => P nx lv' r h k n))
def op_lstore (i nx : Nat) : ac_op := fun P _ lv st h k n => ac_l1 st (fun x r => ac_st2 lv i (.long x) (fun lv' => P nx lv' r h k n))
def op_astore (i nx : Nat) : ac_op := fun P _ lv st h k n => ac_n1 st (fun r => ac_st1 lv i .null (fun lv' => P nx lv' r h k n)) (fun x r => ac_st1 lv i (.ref x) (fun lv' => P nx lv' r h k n))
def op_iinc (i : Nat) (d : Int32) (nx : Nat) : ac_op := fun P _ lv st h k n => ac_ld lv i (fun v => ac_i1 [v] (fun x _ => ac_st1 lv i (.int (x + d)) (fun lv' => P nx lv' st h k n)))
def op_ii (f : Int32 → Int32 → Int32) (nx : Nat) : ac_op := fun P _ lv st h k n => ac_i1 st (fun y r => ac_i1 r (fun x r => P nx lv (.int (f x y) :: r) h k n))
def op_ll (f : Int64 → Int64 → Int64) (nx : Nat) : ac_op := fun P _ lv st h k n => ac_l1 st (fun y r => ac_l1 r (fun x r => P nx lv (.long (f x y) :: r) h k n))
def op_idiv (nx : Nat) : ac_op := fun P _ lv st h k n => ac_i1 st (fun y r => ac_i1 r (fun x r => ¬ y = 0 ∧ P nx lv (.int (x / y) :: r) h k n))
def op_ldiv (nx : Nat) : ac_op := fun P _ lv st h k n => ac_l1 st (fun y r => ac_l1 r (fun x r => ¬ y = 0 ∧ P nx lv (.long (x / y) :: r) h k n))
def op_lrem (nx : Nat) : ac_op := fun P _ lv st h k n => ac_l1 st (fun y r => ac_l1 r (fun x r => ¬ y = 0 ∧ P nx lv (.long (x - x / y * y) :: r) h k n))
def op_lshl (nx : Nat) : ac_op := fun P _ lv st h k n => ac_i1 st (fun y r => ac_l1 r (fun x r => P nx lv (.long (x <<< (y.toInt64 &&& 63)) :: r) h k n))
def op_lcmp (nx : Nat) : ac_op := fun P _ lv st h k n => ac_l1 st (fun y r => ac_l1 r (fun x r => P nx lv (.int (lg_cmp x y) :: r) h k n))
def op_i (f : Int32 → Value) (nx : Nat) : ac_op := fun P _ lv st h k n => ac_i1 st (fun x r => P nx lv (f x :: r) h k n)
def op_l (f : Int64 → Value) (nx : Nat) : ac_op := fun P _ lv st h k n => ac_l1 st (fun x r => P nx lv (f x :: r) h k n)
def op_f2l (nx : Nat) : ac_op := fun P _ lv st h k n => match st with
  | .float x :: r => P nx lv (.long (FP.f2l x) :: r) h k n
  | _ => False
def op_d2l (nx : Nat) : ac_op := fun P _ lv st h k n => match st with
  | .double x :: r => P nx lv (.long (FP.d2l x) :: r) h k n
  | _ => False
def op_dup (nx : Nat) : ac_op := fun P _ lv st h k n => ac_a1 st (fun x r => P nx lv (.ref x :: .ref x :: r) h k n)
def op_pop2 (nx : Nat) : ac_op := fun P _ lv st h k n => ac_l1 st (fun _ r => P nx lv r h k n)
-- branches
def op_if (f : Int32 → Prop) (tg nx : Nat) : ac_op := fun P _ lv st h k n => ac_i1 st (fun x r => (f x → P tg lv r h k n) ∧ (¬ f x → P nx lv r h k n))
def op_icmp (f : Int32 → Int32 → Prop) (tg nx : Nat) : ac_op := fun P _ lv st h k n => ac_i1 st (fun y r => ac_i1 r (fun x r => (f x y → P tg lv r h k n) ∧ (¬ f x y → P nx lv r h k n)))
def op_goto (tg : Nat) : ac_op := fun P _ lv st h k n => P tg lv st h k n
def op_ifnull (tg nx : Nat) : ac_op := fun P _ lv st h k n => ac_n1 st (fun r => P tg lv r h k n) (fun _ r => P nx lv r h k n)
def op_ifnonnull (tg nx : Nat) : ac_op := fun P _ lv st h k n => ac_n1 st (fun r => P nx lv r h k n) (fun _ r => P tg lv r h k n)
def op_acmpne (tg nx : Nat) : ac_op := fun P _ lv st h k n => ac_n1 st (fun r => ac_n1 r (fun r => P nx lv r h k n) (fun _ r => P tg lv r h k n)) (fun y r => ac_n1 r (fun r => P tg lv r h k n) (fun x r => (¬ x = y → P tg lv r h k n) ∧ (x = y → P nx lv r h k n)))
def ac_sw (P : Nat → Prop) (x : Int32) : Nat → List Nat → Prop
  | _, [] => True
  | j, t :: ts => (x = nI j → P t) ∧ ac_sw P x (j + 1) ts
def op_switch (df : Nat) (ts : List Nat) : ac_op := fun P _ lv st h k n => ac_i1 st (fun x r => ac_sw (fun t => P t lv r h k n) x 0 ts ∧ ((x.toInt < 0 ∨ (ts.length : Int) ≤ x.toInt) → P df lv r h k n))
