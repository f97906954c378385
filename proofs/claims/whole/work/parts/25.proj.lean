/-! ===== what each change of the state leaves and sets ===== -/
section PRJ
variable {S : m_S}
theorem p_rg_srg {r : Nat} {o : Option Nat} : m_rg (m_srg S r o) = va_up (m_rg S) r o := rfl
theorem p_kd_srg {r : Nat} {o : Option Nat} : m_kd (m_srg S r o) = m_kd S := rfl
theorem p_ln_srg {r : Nat} {o : Option Nat} : m_ln (m_srg S r o) = m_ln S := rfl
theorem p_wd_srg {r : Nat} {o : Option Nat} : m_wd (m_srg S r o) = m_wd S := rfl
theorem p_bs_srg {r : Nat} {o : Option Nat} : m_bs (m_srg S r o) = m_bs S := rfl
theorem p_of_srg {r : Nat} {o : Option Nat} : m_of (m_srg S r o) = m_of S := rfl
theorem p_st_srg {r : Nat} {o : Option Nat} : m_st (m_srg S r o) = m_st S := rfl
theorem p_lo_srg {r : Nat} {o : Option Nat} : m_lo (m_srg S r o) = m_lo S := rfl
theorem p_mk_srg {r : Nat} {o : Option Nat} : m_mk (m_srg S r o) = m_mk S := rfl
theorem p_gr_srg {r : Nat} {o : Option Nat} : m_gr (m_srg S r o) = m_gr S := rfl
theorem p_dp_srg {r : Nat} {o : Option Nat} : m_dp (m_srg S r o) = m_dp S := rfl
theorem p_sh_srg {r : Nat} {o : Option Nat} : m_sh (m_srg S r o) = m_sh S := rfl
theorem p_rg_skd {i a : Nat} : m_rg (m_skd S i a) = m_rg S := rfl
theorem p_kd_skd {i a : Nat} : m_kd (m_skd S i a) = va_up (m_kd S) i a := rfl
theorem p_ln_skd {i a : Nat} : m_ln (m_skd S i a) = m_ln S := rfl
theorem p_wd_skd {i a : Nat} : m_wd (m_skd S i a) = m_wd S := rfl
theorem p_bs_skd {i a : Nat} : m_bs (m_skd S i a) = m_bs S := rfl
theorem p_of_skd {i a : Nat} : m_of (m_skd S i a) = m_of S := rfl
theorem p_st_skd {i a : Nat} : m_st (m_skd S i a) = m_st S := rfl
theorem p_lo_skd {i a : Nat} : m_lo (m_skd S i a) = m_lo S := rfl
theorem p_mk_skd {i a : Nat} : m_mk (m_skd S i a) = m_mk S := rfl
theorem p_gr_skd {i a : Nat} : m_gr (m_skd S i a) = m_gr S := rfl
theorem p_dp_skd {i a : Nat} : m_dp (m_skd S i a) = m_dp S := rfl
theorem p_sh_skd {i a : Nat} : m_sh (m_skd S i a) = m_sh S := rfl
theorem p_rg_sln {i a : Nat} : m_rg (m_sln S i a) = m_rg S := rfl
theorem p_kd_sln {i a : Nat} : m_kd (m_sln S i a) = m_kd S := rfl
theorem p_ln_sln {i a : Nat} : m_ln (m_sln S i a) = va_up (m_ln S) i a := rfl
theorem p_wd_sln {i a : Nat} : m_wd (m_sln S i a) = m_wd S := rfl
theorem p_bs_sln {i a : Nat} : m_bs (m_sln S i a) = m_bs S := rfl
theorem p_of_sln {i a : Nat} : m_of (m_sln S i a) = m_of S := rfl
theorem p_st_sln {i a : Nat} : m_st (m_sln S i a) = m_st S := rfl
theorem p_lo_sln {i a : Nat} : m_lo (m_sln S i a) = m_lo S := rfl
theorem p_mk_sln {i a : Nat} : m_mk (m_sln S i a) = m_mk S := rfl
theorem p_gr_sln {i a : Nat} : m_gr (m_sln S i a) = m_gr S := rfl
theorem p_dp_sln {i a : Nat} : m_dp (m_sln S i a) = m_dp S := rfl
theorem p_sh_sln {i a : Nat} : m_sh (m_sln S i a) = m_sh S := rfl
theorem p_rg_swd {i a : Nat} : m_rg (m_swd S i a) = m_rg S := rfl
theorem p_kd_swd {i a : Nat} : m_kd (m_swd S i a) = m_kd S := rfl
theorem p_ln_swd {i a : Nat} : m_ln (m_swd S i a) = m_ln S := rfl
theorem p_wd_swd {i a : Nat} : m_wd (m_swd S i a) = va_up (m_wd S) i a := rfl
theorem p_bs_swd {i a : Nat} : m_bs (m_swd S i a) = m_bs S := rfl
theorem p_of_swd {i a : Nat} : m_of (m_swd S i a) = m_of S := rfl
theorem p_st_swd {i a : Nat} : m_st (m_swd S i a) = m_st S := rfl
theorem p_lo_swd {i a : Nat} : m_lo (m_swd S i a) = m_lo S := rfl
theorem p_mk_swd {i a : Nat} : m_mk (m_swd S i a) = m_mk S := rfl
theorem p_gr_swd {i a : Nat} : m_gr (m_swd S i a) = m_gr S := rfl
theorem p_dp_swd {i a : Nat} : m_dp (m_swd S i a) = m_dp S := rfl
theorem p_sh_swd {i a : Nat} : m_sh (m_swd S i a) = m_sh S := rfl
theorem p_rg_sbs {i a : Nat} : m_rg (m_sbs S i a) = m_rg S := rfl
theorem p_kd_sbs {i a : Nat} : m_kd (m_sbs S i a) = m_kd S := rfl
theorem p_ln_sbs {i a : Nat} : m_ln (m_sbs S i a) = m_ln S := rfl
theorem p_wd_sbs {i a : Nat} : m_wd (m_sbs S i a) = m_wd S := rfl
theorem p_bs_sbs {i a : Nat} : m_bs (m_sbs S i a) = va_up (m_bs S) i a := rfl
theorem p_of_sbs {i a : Nat} : m_of (m_sbs S i a) = m_of S := rfl
theorem p_st_sbs {i a : Nat} : m_st (m_sbs S i a) = m_st S := rfl
theorem p_lo_sbs {i a : Nat} : m_lo (m_sbs S i a) = m_lo S := rfl
theorem p_mk_sbs {i a : Nat} : m_mk (m_sbs S i a) = m_mk S := rfl
theorem p_gr_sbs {i a : Nat} : m_gr (m_sbs S i a) = m_gr S := rfl
theorem p_dp_sbs {i a : Nat} : m_dp (m_sbs S i a) = m_dp S := rfl
theorem p_sh_sbs {i a : Nat} : m_sh (m_sbs S i a) = m_sh S := rfl
theorem p_rg_sof {i : Nat} {a : Int32} : m_rg (m_sof S i a) = m_rg S := rfl
theorem p_kd_sof {i : Nat} {a : Int32} : m_kd (m_sof S i a) = m_kd S := rfl
theorem p_ln_sof {i : Nat} {a : Int32} : m_ln (m_sof S i a) = m_ln S := rfl
theorem p_wd_sof {i : Nat} {a : Int32} : m_wd (m_sof S i a) = m_wd S := rfl
theorem p_bs_sof {i : Nat} {a : Int32} : m_bs (m_sof S i a) = m_bs S := rfl
theorem p_of_sof {i : Nat} {a : Int32} : m_of (m_sof S i a) = upd (m_of S) i a := rfl
theorem p_st_sof {i : Nat} {a : Int32} : m_st (m_sof S i a) = m_st S := rfl
theorem p_lo_sof {i : Nat} {a : Int32} : m_lo (m_sof S i a) = m_lo S := rfl
theorem p_mk_sof {i : Nat} {a : Int32} : m_mk (m_sof S i a) = m_mk S := rfl
theorem p_gr_sof {i : Nat} {a : Int32} : m_gr (m_sof S i a) = m_gr S := rfl
theorem p_dp_sof {i : Nat} {a : Int32} : m_dp (m_sof S i a) = m_dp S := rfl
theorem p_sh_sof {i : Nat} {a : Int32} : m_sh (m_sof S i a) = m_sh S := rfl
theorem p_rg_sst {q : Nat} {v : Int64} : m_rg (m_sst S q v) = m_rg S := rfl
theorem p_kd_sst {q : Nat} {v : Int64} : m_kd (m_sst S q v) = m_kd S := rfl
theorem p_ln_sst {q : Nat} {v : Int64} : m_ln (m_sst S q v) = m_ln S := rfl
theorem p_wd_sst {q : Nat} {v : Int64} : m_wd (m_sst S q v) = m_wd S := rfl
theorem p_bs_sst {q : Nat} {v : Int64} : m_bs (m_sst S q v) = m_bs S := rfl
theorem p_of_sst {q : Nat} {v : Int64} : m_of (m_sst S q v) = m_of S := rfl
theorem p_st_sst {q : Nat} {v : Int64} : m_st (m_sst S q v) = vp_updL (m_st S) q v := rfl
theorem p_lo_sst {q : Nat} {v : Int64} : m_lo (m_sst S q v) = m_lo S := rfl
theorem p_mk_sst {q : Nat} {v : Int64} : m_mk (m_sst S q v) = m_mk S := rfl
theorem p_gr_sst {q : Nat} {v : Int64} : m_gr (m_sst S q v) = m_gr S := rfl
theorem p_dp_sst {q : Nat} {v : Int64} : m_dp (m_sst S q v) = m_dp S := rfl
theorem p_sh_sst {q : Nat} {v : Int64} : m_sh (m_sst S q v) = m_sh S := rfl
theorem p_rg_slo {q : Nat} {b : Bool} : m_rg (m_slo S q b) = m_rg S := rfl
theorem p_kd_slo {q : Nat} {b : Bool} : m_kd (m_slo S q b) = m_kd S := rfl
theorem p_ln_slo {q : Nat} {b : Bool} : m_ln (m_slo S q b) = m_ln S := rfl
theorem p_wd_slo {q : Nat} {b : Bool} : m_wd (m_slo S q b) = m_wd S := rfl
theorem p_bs_slo {q : Nat} {b : Bool} : m_bs (m_slo S q b) = m_bs S := rfl
theorem p_of_slo {q : Nat} {b : Bool} : m_of (m_slo S q b) = m_of S := rfl
theorem p_st_slo {q : Nat} {b : Bool} : m_st (m_slo S q b) = m_st S := rfl
theorem p_lo_slo {q : Nat} {b : Bool} : m_lo (m_slo S q b) = va_up (m_lo S) q b := rfl
theorem p_mk_slo {q : Nat} {b : Bool} : m_mk (m_slo S q b) = m_mk S := rfl
theorem p_gr_slo {q : Nat} {b : Bool} : m_gr (m_slo S q b) = m_gr S := rfl
theorem p_dp_slo {q : Nat} {b : Bool} : m_dp (m_slo S q b) = m_dp S := rfl
theorem p_sh_slo {q : Nat} {b : Bool} : m_sh (m_slo S q b) = m_sh S := rfl
theorem p_rg_smk {n : Nat} : m_rg (m_smk S n) = m_rg S := rfl
theorem p_kd_smk {n : Nat} : m_kd (m_smk S n) = m_kd S := rfl
theorem p_ln_smk {n : Nat} : m_ln (m_smk S n) = m_ln S := rfl
theorem p_wd_smk {n : Nat} : m_wd (m_smk S n) = m_wd S := rfl
theorem p_bs_smk {n : Nat} : m_bs (m_smk S n) = m_bs S := rfl
theorem p_of_smk {n : Nat} : m_of (m_smk S n) = m_of S := rfl
theorem p_st_smk {n : Nat} : m_st (m_smk S n) = m_st S := rfl
theorem p_lo_smk {n : Nat} : m_lo (m_smk S n) = m_lo S := rfl
theorem p_mk_smk {n : Nat} : m_mk (m_smk S n) = n := rfl
theorem p_gr_smk {n : Nat} : m_gr (m_smk S n) = m_gr S := rfl
theorem p_dp_smk {n : Nat} : m_dp (m_smk S n) = m_dp S := rfl
theorem p_sh_smk {n : Nat} : m_sh (m_smk S n) = m_sh S := rfl
theorem p_rg_sgh {i g d : Nat} {s : Int32} : m_rg (m_sgh S i g d s) = m_rg S := rfl
theorem p_kd_sgh {i g d : Nat} {s : Int32} : m_kd (m_sgh S i g d s) = m_kd S := rfl
theorem p_ln_sgh {i g d : Nat} {s : Int32} : m_ln (m_sgh S i g d s) = m_ln S := rfl
theorem p_wd_sgh {i g d : Nat} {s : Int32} : m_wd (m_sgh S i g d s) = m_wd S := rfl
theorem p_bs_sgh {i g d : Nat} {s : Int32} : m_bs (m_sgh S i g d s) = m_bs S := rfl
theorem p_of_sgh {i g d : Nat} {s : Int32} : m_of (m_sgh S i g d s) = m_of S := rfl
theorem p_st_sgh {i g d : Nat} {s : Int32} : m_st (m_sgh S i g d s) = m_st S := rfl
theorem p_lo_sgh {i g d : Nat} {s : Int32} : m_lo (m_sgh S i g d s) = m_lo S := rfl
theorem p_mk_sgh {i g d : Nat} {s : Int32} : m_mk (m_sgh S i g d s) = m_mk S := rfl
theorem p_gr_sgh {i g d : Nat} {s : Int32} : m_gr (m_sgh S i g d s) = va_up (m_gr S) i g := rfl
theorem p_dp_sgh {i g d : Nat} {s : Int32} : m_dp (m_sgh S i g d s) = va_up (m_dp S) i d := rfl
theorem p_sh_sgh {i g d : Nat} {s : Int32} : m_sh (m_sgh S i g d s) = upd (m_sh S) i s := rfl
theorem p_rg_sstF {f : Nat → Int64} : m_rg (m_sstF S f) = m_rg S := rfl
theorem p_kd_sstF {f : Nat → Int64} : m_kd (m_sstF S f) = m_kd S := rfl
theorem p_ln_sstF {f : Nat → Int64} : m_ln (m_sstF S f) = m_ln S := rfl
theorem p_wd_sstF {f : Nat → Int64} : m_wd (m_sstF S f) = m_wd S := rfl
theorem p_bs_sstF {f : Nat → Int64} : m_bs (m_sstF S f) = m_bs S := rfl
theorem p_of_sstF {f : Nat → Int64} : m_of (m_sstF S f) = m_of S := rfl
theorem p_st_sstF {f : Nat → Int64} : m_st (m_sstF S f) = f := rfl
theorem p_lo_sstF {f : Nat → Int64} : m_lo (m_sstF S f) = m_lo S := rfl
theorem p_mk_sstF {f : Nat → Int64} : m_mk (m_sstF S f) = m_mk S := rfl
theorem p_gr_sstF {f : Nat → Int64} : m_gr (m_sstF S f) = m_gr S := rfl
theorem p_dp_sstF {f : Nat → Int64} : m_dp (m_sstF S f) = m_dp S := rfl
theorem p_sh_sstF {f : Nat → Int64} : m_sh (m_sstF S f) = m_sh S := rfl
theorem p_rg_sloF {f : Nat → Bool} : m_rg (m_sloF S f) = m_rg S := rfl
theorem p_kd_sloF {f : Nat → Bool} : m_kd (m_sloF S f) = m_kd S := rfl
theorem p_ln_sloF {f : Nat → Bool} : m_ln (m_sloF S f) = m_ln S := rfl
theorem p_wd_sloF {f : Nat → Bool} : m_wd (m_sloF S f) = m_wd S := rfl
theorem p_bs_sloF {f : Nat → Bool} : m_bs (m_sloF S f) = m_bs S := rfl
theorem p_of_sloF {f : Nat → Bool} : m_of (m_sloF S f) = m_of S := rfl
theorem p_st_sloF {f : Nat → Bool} : m_st (m_sloF S f) = m_st S := rfl
theorem p_lo_sloF {f : Nat → Bool} : m_lo (m_sloF S f) = f := rfl
theorem p_mk_sloF {f : Nat → Bool} : m_mk (m_sloF S f) = m_mk S := rfl
theorem p_gr_sloF {f : Nat → Bool} : m_gr (m_sloF S f) = m_gr S := rfl
theorem p_dp_sloF {f : Nat → Bool} : m_dp (m_sloF S f) = m_dp S := rfl
theorem p_sh_sloF {f : Nat → Bool} : m_sh (m_sloF S f) = m_sh S := rfl
theorem p_rg_fresh {r k n : Nat} : m_rg (m_fresh S r k n) = va_up (m_rg S) r (some (m_mk S)) := rfl
theorem p_kd_fresh {r k n : Nat} : m_kd (m_fresh S r k n) = va_up (m_kd S) (m_mk S) k := rfl
theorem p_ln_fresh {r k n : Nat} : m_ln (m_fresh S r k n) = va_up (m_ln S) (m_mk S) n := rfl
theorem p_wd_fresh {r k n : Nat} : m_wd (m_fresh S r k n) = m_wd S := rfl
theorem p_bs_fresh {r k n : Nat} : m_bs (m_fresh S r k n) = m_bs S := rfl
theorem p_of_fresh {r k n : Nat} : m_of (m_fresh S r k n) = m_of S := rfl
theorem p_st_fresh {r k n : Nat} : m_st (m_fresh S r k n) = m_fil (m_st S) (m_mk S) 0 24 (m_fv k) := rfl
theorem p_lo_fresh {r k n : Nat} : m_lo (m_fresh S r k n) = m_unl (m_lo S) (m_mk S) 6 := rfl
theorem p_mk_fresh {r k n : Nat} : m_mk (m_fresh S r k n) = m_mk S + 1 := rfl
theorem p_gr_fresh {r k n : Nat} : m_gr (m_fresh S r k n) = m_gr S := rfl
theorem p_dp_fresh {r k n : Nat} : m_dp (m_fresh S r k n) = m_dp S := rfl
theorem p_sh_fresh {r k n : Nat} : m_sh (m_fresh S r k n) = m_sh S := rfl
end PRJ
