/-! ===== the twenty calls, as they change the state: exception's number or 7, answer, state ===== -/
def m_sstF (S : m_S) (f : Nat → Int64) : m_S := (m_rg S, m_kd S, m_ln S, m_wd S, m_bs S, m_of S, f, m_lo S, m_mk S, m_gr S, m_dp S, m_sh S)
def m_sloF (S : m_S) (f : Nat → Bool) : m_S := (m_rg S, m_kd S, m_ln S, m_wd S, m_bs S, m_of S, m_st S, f, m_mk S, m_gr S, m_dp S, m_sh S)
/-- elements of an item from place a on, up to place b, anew -/
def m_fil (f : Nat → Int64) (i a b : Nat) (v : Nat → Int64) : Nat → Int64 := fun q => if 24 * i + a ≤ q ∧ q < 24 * i + b then v (q - 24 * i) else f q
def m_unl (f : Nat → Bool) (i b : Nat) : Nat → Bool := fun q => if 6 * i ≤ q ∧ q < 6 * i + b then false else f q
def m_fv (k e : Nat) : Int64 := if k = 8 ∨ (k = 10 ∧ e = 1) then -1 else 0
def m_fresh (S : m_S) (r k n : Nat) : m_S := m_srg (m_sloF (m_sstF (m_sln (m_skd (m_smk S (m_mk S + 1)) (m_mk S) k) (m_mk S) n) (m_fil (m_st S) (m_mk S) 0 24 (m_fv k))) (m_unl (m_lo S) (m_mk S) 6)) r (some (m_mk S))
def m_ns {α : Type} (z : α) (S : m_S) (o : Option Nat) (F : Nat → Nat × α × m_S) : Nat × α × m_S := match o with
  | none => (1, z, S)
  | some i => F i
def f_make (S : m_S) (r s n : Int32) : Nat × Int32 × m_S := if m_bad r 8 ∨ m_bad s 9 ∨ 24 < n then (0, 0, S) else if n < 0 then (4, 0, S) else (7, nI (m_mk S + 1), m_sgh (m_fresh S r.toNatClampNeg s.toNatClampNeg n.toNatClampNeg) (m_mk S) (m_mk S) 0 0)
def f_grid (S : m_S) (r a b : Int32) : Nat × Int32 × m_S := if m_bad r 8 ∨ 6 < a ∨ 4 < b then (0, 0, S) else if a < 0 ∨ b < 0 then (4, 0, S) else (7, nI (m_mk S + 1), m_sgh (m_swd (m_fresh S r.toNatClampNeg 9 a.toNatClampNeg) (m_mk S) b.toNatClampNeg) (m_mk S) (m_mk S) 0 0)
def f_record (S : m_S) (r : Int32) : Nat × Int32 × m_S := if m_bad r 8 then (0, 0, S) else (7, nI (m_mk S + 1), m_sgh (m_fresh S r.toNatClampNeg 10 0) (m_mk S) (m_mk S) 0 0)
def i_window (S : m_S) (r : Nat) (o : Int32) (i : Nat) : Nat × Int32 × m_S := if m_kd S i = 9 ∨ m_kd S i = 10 then (2, 0, S) else if 6 ≤ m_dp S i then (5, 0, S) else (7, nI (m_mk S + 1), m_sgh (m_sof (m_sbs (m_fresh S r 11 0) (m_mk S) i) (m_mk S) o) (m_mk S) (m_gr S i) (m_dp S i + 1) (m_sh S i + o))
def f_window (S : m_S) (r b o : Int32) : Nat × Int32 × m_S := if m_bad r 8 ∨ m_bad b 8 then (0, 0, S) else m_ns 0 S (m_rg S b.toNatClampNeg) (i_window S r.toNatClampNeg o)
def m_cf (S : m_S) (f : Int32) : Option Nat := if f < 0 then none else m_rg S f.toNatClampNeg
def f_copy (S : m_S) (r f : Int32) : Nat × Int32 × m_S := if m_bad r 8 ∨ f < -1 ∨ 7 < f then (0, 0, S) else (7, if m_rg S r.toNatClampNeg = m_cf S f then 1 else 0, m_srg S r.toNatClampNeg (m_cf S f))
def i_lose (S : m_S) (w : Int32) (i : Nat) : Nat × Int32 × m_S := if 10 ≤ m_kd S i then (2, 0, S) else if m_kd S i = 9 then (if m_bad w (m_ln S i) then (3, 0, S) else if m_lo S (6 * i + w.toNatClampNeg) = true then (1, 0, S) else (7, nI (m_wd S i), m_slo S (6 * i + w.toNatClampNeg) true)) else if m_lo S (6 * i) = true then (1, 0, S) else (7, nI (m_ln S i), m_slo S (6 * i) true)
def f_lose (S : m_S) (r w : Int32) : Nat × Int32 × m_S := if m_bad r 8 then (0, 0, S) else m_ns 0 S (m_rg S r.toNatClampNeg) (i_lose S w)
def m_kp (S : m_S) (i n : Nat) : Nat := if m_ln S i < n then m_ln S i else n
def i_resize (S : m_S) (n : Int32) (i : Nat) : Nat × Int32 × m_S := if 9 ≤ m_kd S i then (2, 0, S) else if n < 0 then (4, 0, S) else if m_lo S (6 * i) = true then (1, 0, S) else (7, nI (m_kp S i n.toNatClampNeg), m_sln (m_sstF S (m_fil (m_st S) i (m_kp S i n.toNatClampNeg) 24 (fun _ => if m_kd S i = 8 then -1 else 0))) i n.toNatClampNeg)
def f_resize (S : m_S) (r n : Int32) : Nat × Int32 × m_S := if m_bad r 8 ∨ 24 < n then (0, 0, S) else m_ns 0 S (m_rg S r.toNatClampNeg) (i_resize S n)
def i_size (S : m_S) (i : Nat) : Nat × Int32 × m_S := if m_kd S i = 10 then (2, 0, S) else if ¬ m_kd S (m_gr S i) = 9 ∧ m_lo S (6 * m_gr S i) = true then (1, 0, S) else (7, nI (m_ln S (m_gr S i)) - m_sh S i, S)
def f_size (S : m_S) (r : Int32) : Nat × Int32 × m_S := if m_bad r 8 then (0, 0, S) else m_ns 0 S (m_rg S r.toNatClampNeg) (i_size S)
def i_take (S : m_S) (ix : Int32) (i : Nat) : Nat × Int64 × m_S := if 7 < m_kd S (m_gr S i) then (2, 0, S) else if (m_pl S i ix).1 = 7 then (7, m_st S (24 * m_gr S i + (m_pl S i ix).2), S) else ((m_pl S i ix).1, 0, S)
def f_take (S : m_S) (r ix : Int32) : Nat × Int64 × m_S := if m_bad r 8 then (0, 0, S) else m_ns 0 S (m_rg S r.toNatClampNeg) (i_take S ix)
def i_put (S : m_S) (ix : Int32) (v : Int64) (i : Nat) : Nat × Int64 × m_S := if 7 < m_kd S (m_gr S i) then (2, 0, S) else if (m_pl S i ix).1 = 7 then (7, m_fit (m_kd S (m_gr S i)) v, m_sst S (24 * m_gr S i + (m_pl S i ix).2) (m_fit (m_kd S (m_gr S i)) v)) else ((m_pl S i ix).1, 0, S)
def f_put (S : m_S) (r ix : Int32) (v : Int64) : Nat × Int64 × m_S := if m_bad r 8 then (0, 0, S) else m_ns 0 S (m_rg S r.toNatClampNeg) (i_put S ix v)
def i_cell (S : m_S) (w c : Int32) (i : Nat) : Nat × Int32 × m_S := if ¬ m_kd S i = 9 then (2, 0, S) else if m_bad w (m_ln S i) then (3, 0, S) else if m_lo S (6 * i + w.toNatClampNeg) = true then (1, 0, S) else if m_bad c (m_wd S i) then (3, 0, S) else (7, (m_st S (24 * i + (m_wd S i * w.toNatClampNeg + c.toNatClampNeg))).toInt32, S)
def f_cell (S : m_S) (r w c : Int32) : Nat × Int32 × m_S := if m_bad r 8 then (0, 0, S) else m_ns 0 S (m_rg S r.toNatClampNeg) (i_cell S w c)
def i_setCell (S : m_S) (w c v d : Int32) (i : Nat) : Nat × Unit × m_S := if ¬ m_kd S i = 9 then (2, (), S) else if m_bad w (m_ln S i) then (3, (), S) else if d = 0 then (6, (), S) else if m_lo S (6 * i + w.toNatClampNeg) = true then (1, (), S) else if m_bad c (m_wd S i) then (3, (), S) else (7, (), m_sst S (24 * i + (m_wd S i * w.toNatClampNeg + c.toNatClampNeg)) (v / d).toInt64)
def f_setCell (S : m_S) (r w c v d : Int32) : Nat × Unit × m_S := if m_bad r 8 then (0, (), S) else m_ns () S (m_rg S r.toNatClampNeg) (i_setCell S w c v d)
def i_refer (S : m_S) (ix : Int32) (f : Nat) (i : Nat) : Nat × Unit × m_S := if ¬ m_kd S (m_gr S i) = 8 then (2, (), S) else if (m_pl S i ix).1 = 7 then (7, (), m_sst S (24 * m_gr S i + (m_pl S i ix).2) (m_lv (m_rg S f))) else ((m_pl S i ix).1, (), S)
def f_refer (S : m_S) (r ix f : Int32) : Nat × Unit × m_S := if m_bad r 8 ∨ m_bad f 8 then (0, (), S) else m_ns () S (m_rg S r.toNatClampNeg) (i_refer S ix f.toNatClampNeg)
def m_so (S : m_S) : Option Nat → Int32
  | none => -1
  | some j => nI (m_kd S (m_gr S j))
def i_fetch (S : m_S) (t : Nat) (ix : Int32) (i : Nat) : Nat × Int32 × m_S := if ¬ m_kd S (m_gr S i) = 8 then (2, 0, S) else if (m_pl S i ix).1 = 7 then (7, m_so S (m_dl (m_st S (24 * m_gr S i + (m_pl S i ix).2))), m_srg S t (m_dl (m_st S (24 * m_gr S i + (m_pl S i ix).2)))) else ((m_pl S i ix).1, 0, S)
def f_fetch (S : m_S) (t r ix : Int32) : Nat × Int32 × m_S := if m_bad t 8 ∨ m_bad r 8 then (0, 0, S) else m_ns 0 S (m_rg S r.toNatClampNeg) (i_fetch S t.toNatClampNeg ix)
/-- the record in a register -/
def m_rc {α : Type} (z : α) (S : m_S) (k : Nat) (F : Nat → Nat × α × m_S) : Nat × α × m_S := m_ns z S (m_rg S k) (fun i => if m_kd S i = 10 then F i else (2, z, S))
/-- none, or a record -/
def m_nr (S : m_S) (o : Option Nat) : Bool := match o with
  | none => true
  | some j => m_kd S j == 10
def f_link (S : m_S) (r t : Int32) : Nat × Unit × m_S := if m_bad r 8 ∨ m_bad t 8 then (0, (), S) else if m_nr S (m_rg S t.toNatClampNeg) = true then m_rc () S r.toNatClampNeg (fun i => (7, (), m_sst S (24 * i + 1) (m_lv (m_rg S t.toNatClampNeg)))) else (2, (), S)
def m_no (o : Option Nat) : Int32 := match o with
  | none => 1
  | some _ => 0
def f_follow (S : m_S) (t r : Int32) : Nat × Int32 × m_S := if m_bad t 8 ∨ m_bad r 8 then (0, 0, S) else m_rc 0 S r.toNatClampNeg (fun i => (7, m_no (m_dl (m_st S (24 * i + 1))), m_srg S t.toNatClampNeg (m_dl (m_st S (24 * i + 1)))))
def f_exchange (S : m_S) (r : Int32) (v : Int64) : Nat × Int64 × m_S := if m_bad r 8 then (0, 0, S) else m_rc 0 S r.toNatClampNeg (fun i => (7, m_st S (24 * i), m_sst S (24 * i) v))
def m_tot (S : m_S) : Nat → Option Nat → Int64 → Int64
  | 0, _, a => a
  | _ + 1, none, a => a
  | n + 1, some i, a => m_tot S n (m_dl (m_st S (24 * i + 1))) (a + m_st S (24 * i))
def f_total (S : m_S) (r : Int32) : Nat × Int64 × m_S := if m_bad r 8 then (0, 0, S) else m_rc 0 S r.toNatClampNeg (fun i => (7, m_tot S 20 (some i) 0, S))
def m_rck : Nat → Int64 → Int64 → Int64
  | 0, p, q => p + q
  | 1, p, q => p - q
  | 2, p, q => p * q
  | 3, p, q => p / q
  | _, p, q => p - p / q * q
def m_cv (S : m_S) (i j : Nat) (x : Int64) : Int64 := if m_kd S (m_gr S i) < 5 ∧ m_kd S (m_gr S j) < 5 then x.toInt32.toInt64 else x
def j_combine (S : m_S) (op : Nat) (ix at' : Int32) (i j : Nat) : Nat × Int64 × m_S :=
  if 5 < m_kd S (m_gr S i) ∨ 5 < m_kd S (m_gr S j) then (2, 0, S) else
  if ¬ (m_pl S i ix).1 = 7 then ((m_pl S i ix).1, 0, S) else if ¬ (m_pl S j at').1 = 7 then ((m_pl S j at').1, 0, S) else
  if 3 ≤ op ∧ m_st S (24 * m_gr S j + (m_pl S j at').2) = 0 then (6, 0, S) else
  (7, m_fit (m_kd S (m_gr S i)) (m_cv S i j (m_rck op (m_st S (24 * m_gr S i + (m_pl S i ix).2)) (m_st S (24 * m_gr S j + (m_pl S j at').2)))), m_sst S (24 * m_gr S i + (m_pl S i ix).2) (m_fit (m_kd S (m_gr S i)) (m_cv S i j (m_rck op (m_st S (24 * m_gr S i + (m_pl S i ix).2)) (m_st S (24 * m_gr S j + (m_pl S j at').2))))))
def f_combine (S : m_S) (op r ix o at' : Int32) : Nat × Int64 × m_S := if m_bad op 5 ∨ m_bad r 8 ∨ m_bad o 8 then (0, 0, S) else m_ns 0 S (m_rg S r.toNatClampNeg) (fun i => m_ns 0 S (m_rg S o.toNatClampNeg) (fun j => j_combine S op.toNatClampNeg ix at' i j))
def m_mv (i j : Nat) (ix at' : Int32) : Nat → Nat → m_S → Nat × m_S
  | 0, _, S => (7, S)
  | n + 1, d, S => if ¬ (m_pl S j (at' + nI d)).1 = 7 then ((m_pl S j (at' + nI d)).1, S) else if ¬ (m_pl S i (ix + nI d)).1 = 7 then ((m_pl S i (ix + nI d)).1, S) else m_mv i j ix at' n (d + 1) (m_sst S (24 * m_gr S i + (m_pl S i (ix + nI d)).2) (m_fit (m_kd S (m_gr S i)) (m_st S (24 * m_gr S j + (m_pl S j (at' + nI d)).2))))
def m_mr (n : Nat) (t : Nat × m_S) : Nat × Int32 × m_S := (t.1, if t.1 = 7 then nI n else 0, t.2)
def j_move (S : m_S) (ix at' : Int32) (n i j : Nat) : Nat × Int32 × m_S := if 7 < m_kd S (m_gr S i) ∨ 7 < m_kd S (m_gr S j) then (2, 0, S) else m_mr n (m_mv i j ix at' n 0 S)
def f_move (S : m_S) (r ix o at' n : Int32) : Nat × Int32 × m_S := if m_bad r 8 ∨ m_bad o 8 ∨ m_bad n 25 then (0, 0, S) else m_ns 0 S (m_rg S r.toNatClampNeg) (fun i => m_ns 0 S (m_rg S o.toNatClampNeg) (fun j => j_move S ix at' n.toNatClampNeg i j))
