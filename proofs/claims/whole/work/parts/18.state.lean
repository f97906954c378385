/-! ===== the state between class and reference; the reference's cells ===== -/
/-- registers; kinds, lengths, widths, bases, offsets; elements; what is lost; how many are made; grounds, depths, shifts -/
abbrev m_S : Type := (Nat → Option Nat) × (Nat → Nat) × (Nat → Nat) × (Nat → Nat) × (Nat → Nat) × (Nat → Int32) × (Nat → Int64) × (Nat → Bool) × Nat × (Nat → Nat) × (Nat → Nat) × (Nat → Int32)
def m_rg (S : m_S) : Nat → Option Nat := S.1
def m_kd (S : m_S) : Nat → Nat := S.2.1
def m_ln (S : m_S) : Nat → Nat := S.2.2.1
def m_wd (S : m_S) : Nat → Nat := S.2.2.2.1
def m_bs (S : m_S) : Nat → Nat := S.2.2.2.2.1
def m_of (S : m_S) : Nat → Int32 := S.2.2.2.2.2.1
def m_st (S : m_S) : Nat → Int64 := S.2.2.2.2.2.2.1
def m_lo (S : m_S) : Nat → Bool := S.2.2.2.2.2.2.2.1
def m_mk (S : m_S) : Nat := S.2.2.2.2.2.2.2.2.1
def m_gr (S : m_S) : Nat → Nat := S.2.2.2.2.2.2.2.2.2.1
def m_dp (S : m_S) : Nat → Nat := S.2.2.2.2.2.2.2.2.2.2.1
def m_sh (S : m_S) : Nat → Int32 := S.2.2.2.2.2.2.2.2.2.2.2
def m_srg (S : m_S) (r : Nat) (o : Option Nat) : m_S := (va_up (m_rg S) r o, m_kd S, m_ln S, m_wd S, m_bs S, m_of S, m_st S, m_lo S, m_mk S, m_gr S, m_dp S, m_sh S)
def m_skd (S : m_S) (i a : Nat) : m_S := (m_rg S, va_up (m_kd S) i a, m_ln S, m_wd S, m_bs S, m_of S, m_st S, m_lo S, m_mk S, m_gr S, m_dp S, m_sh S)
def m_sln (S : m_S) (i a : Nat) : m_S := (m_rg S, m_kd S, va_up (m_ln S) i a, m_wd S, m_bs S, m_of S, m_st S, m_lo S, m_mk S, m_gr S, m_dp S, m_sh S)
def m_swd (S : m_S) (i a : Nat) : m_S := (m_rg S, m_kd S, m_ln S, va_up (m_wd S) i a, m_bs S, m_of S, m_st S, m_lo S, m_mk S, m_gr S, m_dp S, m_sh S)
def m_sbs (S : m_S) (i a : Nat) : m_S := (m_rg S, m_kd S, m_ln S, m_wd S, va_up (m_bs S) i a, m_of S, m_st S, m_lo S, m_mk S, m_gr S, m_dp S, m_sh S)
def m_sof (S : m_S) (i : Nat) (a : Int32) : m_S := (m_rg S, m_kd S, m_ln S, m_wd S, m_bs S, upd (m_of S) i a, m_st S, m_lo S, m_mk S, m_gr S, m_dp S, m_sh S)
def m_sst (S : m_S) (q : Nat) (v : Int64) : m_S := (m_rg S, m_kd S, m_ln S, m_wd S, m_bs S, m_of S, vp_updL (m_st S) q v, m_lo S, m_mk S, m_gr S, m_dp S, m_sh S)
def m_slo (S : m_S) (q : Nat) (b : Bool) : m_S := (m_rg S, m_kd S, m_ln S, m_wd S, m_bs S, m_of S, m_st S, va_up (m_lo S) q b, m_mk S, m_gr S, m_dp S, m_sh S)
def m_smk (S : m_S) (n : Nat) : m_S := (m_rg S, m_kd S, m_ln S, m_wd S, m_bs S, m_of S, m_st S, m_lo S, n, m_gr S, m_dp S, m_sh S)
/-- ground, depth, shift of an item -/
def m_sgh (S : m_S) (i g d : Nat) (s : Int32) : m_S := (m_rg S, m_kd S, m_ln S, m_wd S, m_bs S, m_of S, m_st S, m_lo S, m_mk S, va_up (m_gr S) i g, va_up (m_dp S) i d, upd (m_sh S) i s)
def m_rv : Option Nat → Int32
  | none => -1
  | some i => nI i
def m_bv : Bool → Int32
  | false => 0
  | true => 1
/-- the reference's cells: itself, its eight rows -/
def m_md (h : ac_H) (mm : Nat) (ar : Nat → Nat) (S : m_S) (ve el co : Int32) : Prop :=
  h mm = some (.inl (9, [.ref (ar 0), .ref (ar 1), .ref (ar 2), .ref (ar 3), .ref (ar 4), .ref (ar 5), .ref (ar 6), .ref (ar 7), .int (nI (m_mk S)), .int ve, .int el, .int co])) ∧
  h (ar 0) = some (.inr (0, 8, .inl (fun r => m_rv (m_rg S r)))) ∧
  h (ar 1) = some (.inr (0, 520, .inl (fun i => nI (m_kd S i)))) ∧
  h (ar 2) = some (.inr (0, 520, .inl (fun i => nI (m_ln S i)))) ∧
  h (ar 3) = some (.inr (0, 520, .inl (fun i => nI (m_wd S i)))) ∧
  h (ar 4) = some (.inr (0, 520, .inl (fun i => nI (m_bs S i)))) ∧
  h (ar 5) = some (.inr (0, 520, .inl (m_of S))) ∧
  h (ar 6) = some (.inr (2, 12480, .inr (.inl (m_st S)))) ∧
  h (ar 7) = some (.inr (1, 3120, .inl (fun q => m_bv (m_lo S q)))) ∧
  (∀ i j, i < 8 → j < 8 → ar i = ar j → i = j) ∧ ∀ j, j < 8 → ar j ≠ mm
/-- nothing but the reference's cells has changed -/
def m_fr (mm : Nat) (ar : Nat → Nat) (h h' : ac_H) : Prop := ∀ b, b ≠ mm → (∀ j, j < 8 → b ≠ ar j) → h' b = h b
theorem m_fr0 {mm : Nat} {ar : Nat → Nat} {h : ac_H} : m_fr mm ar h h := fun _ _ _ => rfl
theorem m_frT {mm : Nat} {ar : Nat → Nat} {h h1 h2 : ac_H} (a : m_fr mm ar h h1) (b : m_fr mm ar h1 h2) : m_fr mm ar h h2 := fun q x y => (b q x y).trans (a q x y)
theorem ac_hsE {h : ac_H} {a : Nat} {e : ac_E} : ac_hs h a e a = some e := if_pos rfl
theorem ac_hsN {h : ac_H} {a b : Nat} {e : ac_E} (n : b ≠ a) : ac_hs h a e b = h b := if_neg n
theorem va_upE {α : Type} {f : Nat → α} {k : Nat} {v : α} : va_up f k v k = v := if_pos rfl
theorem va_upN {α : Type} {f : Nat → α} {k j : Nat} {v : α} (n : j ≠ k) : va_up f k v j = f j := if_neg n
theorem vp_updE {f : Nat → Int64} {k : Nat} {v : Int64} : vp_updL f k v k = v := if_pos rfl
theorem vp_updN {f : Nat → Int64} {k j : Nat} {v : Int64} (n : j ≠ k) : vp_updL f k v j = f j := if_neg n
theorem updE {f : Nat → Int32} {k : Nat} {v : Int32} : upd f k v k = v := if_pos rfl
theorem updN {f : Nat → Int32} {k j : Nat} {v : Int32} (n : j ≠ k) : upd f k v j = f j := if_neg n
theorem upd_map {α : Type} {g : α → Int32} {f : Nat → α} {k : Nat} {v : α} : upd (fun i => g (f i)) k (g v) = fun i => g (va_up f k v i) := by
  funext i
  unfold upd va_up
  split <;> rfl
theorem nI_mul (a b : Nat) : nI a * nI b = nI (a * b) := (Int32.ofNat_mul a b).symm
section MMD
variable {h : ac_H} {mm : Nat} {ar : Nat → Nat} {S : m_S} {ve el co : Int32} {P : ac_P} {nx : Nat} {lv : ac_V} {r : List Value} {k n : Nat}
theorem md_rg (M : m_md h mm ar S ve el co) {x : Int32} {q : Nat} (hx : x = nI q) (hq : q < 8) (K : P nx lv (.int (m_rv (m_rg S q)) :: r) h k n) : ∃ (z : Nat) (f : Nat → Int32), h (ar 0) = some (.inr (0, z, .inl f)) ∧ vp_in x z ∧ P nx lv (.int (f x.toNatClampNeg) :: r) h k n := by
  obtain ⟨M0, M1, M2, M3, M4, M5, M6, M7, M8, Mi, Mn⟩ := M
  subst hx
  refine ⟨_, _, M1, vp_in_nI hq (by decide), ?_⟩
  rw [nI_clamp (by omega)]
  exact K
theorem md_kd (M : m_md h mm ar S ve el co) {x : Int32} {q : Nat} (hx : x = nI q) (hq : q < 520) (K : P nx lv (.int (nI (m_kd S q)) :: r) h k n) : ∃ (z : Nat) (f : Nat → Int32), h (ar 1) = some (.inr (0, z, .inl f)) ∧ vp_in x z ∧ P nx lv (.int (f x.toNatClampNeg) :: r) h k n := by
  obtain ⟨M0, M1, M2, M3, M4, M5, M6, M7, M8, Mi, Mn⟩ := M
  subst hx
  refine ⟨_, _, M2, vp_in_nI hq (by decide), ?_⟩
  rw [nI_clamp (by omega)]
  exact K
theorem md_ln (M : m_md h mm ar S ve el co) {x : Int32} {q : Nat} (hx : x = nI q) (hq : q < 520) (K : P nx lv (.int (nI (m_ln S q)) :: r) h k n) : ∃ (z : Nat) (f : Nat → Int32), h (ar 2) = some (.inr (0, z, .inl f)) ∧ vp_in x z ∧ P nx lv (.int (f x.toNatClampNeg) :: r) h k n := by
  obtain ⟨M0, M1, M2, M3, M4, M5, M6, M7, M8, Mi, Mn⟩ := M
  subst hx
  refine ⟨_, _, M3, vp_in_nI hq (by decide), ?_⟩
  rw [nI_clamp (by omega)]
  exact K
theorem md_wd (M : m_md h mm ar S ve el co) {x : Int32} {q : Nat} (hx : x = nI q) (hq : q < 520) (K : P nx lv (.int (nI (m_wd S q)) :: r) h k n) : ∃ (z : Nat) (f : Nat → Int32), h (ar 3) = some (.inr (0, z, .inl f)) ∧ vp_in x z ∧ P nx lv (.int (f x.toNatClampNeg) :: r) h k n := by
  obtain ⟨M0, M1, M2, M3, M4, M5, M6, M7, M8, Mi, Mn⟩ := M
  subst hx
  refine ⟨_, _, M4, vp_in_nI hq (by decide), ?_⟩
  rw [nI_clamp (by omega)]
  exact K
theorem md_bs (M : m_md h mm ar S ve el co) {x : Int32} {q : Nat} (hx : x = nI q) (hq : q < 520) (K : P nx lv (.int (nI (m_bs S q)) :: r) h k n) : ∃ (z : Nat) (f : Nat → Int32), h (ar 4) = some (.inr (0, z, .inl f)) ∧ vp_in x z ∧ P nx lv (.int (f x.toNatClampNeg) :: r) h k n := by
  obtain ⟨M0, M1, M2, M3, M4, M5, M6, M7, M8, Mi, Mn⟩ := M
  subst hx
  refine ⟨_, _, M5, vp_in_nI hq (by decide), ?_⟩
  rw [nI_clamp (by omega)]
  exact K
theorem md_of (M : m_md h mm ar S ve el co) {x : Int32} {q : Nat} (hx : x = nI q) (hq : q < 520) (K : P nx lv (.int (m_of S q) :: r) h k n) : ∃ (z : Nat) (f : Nat → Int32), h (ar 5) = some (.inr (0, z, .inl f)) ∧ vp_in x z ∧ P nx lv (.int (f x.toNatClampNeg) :: r) h k n := by
  obtain ⟨M0, M1, M2, M3, M4, M5, M6, M7, M8, Mi, Mn⟩ := M
  subst hx
  refine ⟨_, _, M6, vp_in_nI hq (by decide), ?_⟩
  rw [nI_clamp (by omega)]
  exact K
theorem md_st (M : m_md h mm ar S ve el co) {x : Int32} {q : Nat} (hx : x = nI q) (hq : q < 12480) (K : P nx lv (.long (m_st S q) :: r) h k n) : ∃ (z : Nat) (f : Nat → Int64), h (ar 6) = some (.inr (2, z, .inr (.inl f))) ∧ vp_in x z ∧ P nx lv (.long (f x.toNatClampNeg) :: r) h k n := by
  obtain ⟨M0, M1, M2, M3, M4, M5, M6, M7, M8, Mi, Mn⟩ := M
  subst hx
  refine ⟨_, _, M7, vp_in_nI hq (by decide), ?_⟩
  rw [nI_clamp (by omega)]
  exact K
theorem md_lo (M : m_md h mm ar S ve el co) {x : Int32} {q : Nat} (hx : x = nI q) (hq : q < 3120) (K : P nx lv (.int (m_bv (m_lo S q)) :: r) h k n) : ∃ (z : Nat) (f : Nat → Int32), h (ar 7) = some (.inr (1, z, .inl f)) ∧ vp_in x z ∧ P nx lv (.int (f x.toNatClampNeg) :: r) h k n := by
  obtain ⟨M0, M1, M2, M3, M4, M5, M6, M7, M8, Mi, Mn⟩ := M
  subst hx
  refine ⟨_, _, M8, vp_in_nI hq (by decide), ?_⟩
  rw [nI_clamp (by omega)]
  exact K
theorem md_wrg (M : m_md h mm ar S ve el co) {x : Int32} {q : Nat} {v : Int32} {o : Option Nat} (hx : x = nI q) (hq : q < 8) (hv : v = m_rv o) (K : ∀ h', m_md h' mm ar (m_srg S q o) ve el co → m_fr mm ar h h' → P nx lv r h' k n) : ∃ (z : Nat) (f : Nat → Int32), h (ar 0) = some (.inr (0, z, .inl f)) ∧ vp_in x z ∧ P nx lv r (ac_hs h (ar 0) (.inr (0, z, .inl (upd f x.toNatClampNeg v)))) k n := by
  obtain ⟨M0, M1, M2, M3, M4, M5, M6, M7, M8, Mi, Mn⟩ := M
  subst hx
  subst hv
  have e : upd (fun i => m_rv (m_rg S i)) q (m_rv o) = fun i => m_rv (va_up (m_rg S) q o i) := upd_map
  refine ⟨_, _, M1, vp_in_nI hq (by decide), ?_⟩
  rw [nI_clamp (by omega)]
  rw [e]
  exact K _ ⟨(ac_hsN (fun z => Mn 0 (by decide) z.symm)).trans M0, ac_hsE, (ac_hsN (fun z => absurd (Mi 1 0 (by decide) (by decide) z) (by decide))).trans M2, (ac_hsN (fun z => absurd (Mi 2 0 (by decide) (by decide) z) (by decide))).trans M3, (ac_hsN (fun z => absurd (Mi 3 0 (by decide) (by decide) z) (by decide))).trans M4, (ac_hsN (fun z => absurd (Mi 4 0 (by decide) (by decide) z) (by decide))).trans M5, (ac_hsN (fun z => absurd (Mi 5 0 (by decide) (by decide) z) (by decide))).trans M6, (ac_hsN (fun z => absurd (Mi 6 0 (by decide) (by decide) z) (by decide))).trans M7, (ac_hsN (fun z => absurd (Mi 7 0 (by decide) (by decide) z) (by decide))).trans M8, Mi, Mn⟩ (fun b hb hj => ac_hsN (hj 0 (by decide)))
theorem md_wkd (M : m_md h mm ar S ve el co) {x : Int32} {q : Nat} {v : Int32} {o : Nat} (hx : x = nI q) (hq : q < 520) (hv : v = nI o) (K : ∀ h', m_md h' mm ar (m_skd S q o) ve el co → m_fr mm ar h h' → P nx lv r h' k n) : ∃ (z : Nat) (f : Nat → Int32), h (ar 1) = some (.inr (0, z, .inl f)) ∧ vp_in x z ∧ P nx lv r (ac_hs h (ar 1) (.inr (0, z, .inl (upd f x.toNatClampNeg v)))) k n := by
  obtain ⟨M0, M1, M2, M3, M4, M5, M6, M7, M8, Mi, Mn⟩ := M
  subst hx
  subst hv
  have e : upd (fun i => nI (m_kd S i)) q (nI o) = fun i => nI (va_up (m_kd S) q o i) := upd_map
  refine ⟨_, _, M2, vp_in_nI hq (by decide), ?_⟩
  rw [nI_clamp (by omega)]
  rw [e]
  exact K _ ⟨(ac_hsN (fun z => Mn 1 (by decide) z.symm)).trans M0, (ac_hsN (fun z => absurd (Mi 0 1 (by decide) (by decide) z) (by decide))).trans M1, ac_hsE, (ac_hsN (fun z => absurd (Mi 2 1 (by decide) (by decide) z) (by decide))).trans M3, (ac_hsN (fun z => absurd (Mi 3 1 (by decide) (by decide) z) (by decide))).trans M4, (ac_hsN (fun z => absurd (Mi 4 1 (by decide) (by decide) z) (by decide))).trans M5, (ac_hsN (fun z => absurd (Mi 5 1 (by decide) (by decide) z) (by decide))).trans M6, (ac_hsN (fun z => absurd (Mi 6 1 (by decide) (by decide) z) (by decide))).trans M7, (ac_hsN (fun z => absurd (Mi 7 1 (by decide) (by decide) z) (by decide))).trans M8, Mi, Mn⟩ (fun b hb hj => ac_hsN (hj 1 (by decide)))
theorem md_wln (M : m_md h mm ar S ve el co) {x : Int32} {q : Nat} {v : Int32} {o : Nat} (hx : x = nI q) (hq : q < 520) (hv : v = nI o) (K : ∀ h', m_md h' mm ar (m_sln S q o) ve el co → m_fr mm ar h h' → P nx lv r h' k n) : ∃ (z : Nat) (f : Nat → Int32), h (ar 2) = some (.inr (0, z, .inl f)) ∧ vp_in x z ∧ P nx lv r (ac_hs h (ar 2) (.inr (0, z, .inl (upd f x.toNatClampNeg v)))) k n := by
  obtain ⟨M0, M1, M2, M3, M4, M5, M6, M7, M8, Mi, Mn⟩ := M
  subst hx
  subst hv
  have e : upd (fun i => nI (m_ln S i)) q (nI o) = fun i => nI (va_up (m_ln S) q o i) := upd_map
  refine ⟨_, _, M3, vp_in_nI hq (by decide), ?_⟩
  rw [nI_clamp (by omega)]
  rw [e]
  exact K _ ⟨(ac_hsN (fun z => Mn 2 (by decide) z.symm)).trans M0, (ac_hsN (fun z => absurd (Mi 0 2 (by decide) (by decide) z) (by decide))).trans M1, (ac_hsN (fun z => absurd (Mi 1 2 (by decide) (by decide) z) (by decide))).trans M2, ac_hsE, (ac_hsN (fun z => absurd (Mi 3 2 (by decide) (by decide) z) (by decide))).trans M4, (ac_hsN (fun z => absurd (Mi 4 2 (by decide) (by decide) z) (by decide))).trans M5, (ac_hsN (fun z => absurd (Mi 5 2 (by decide) (by decide) z) (by decide))).trans M6, (ac_hsN (fun z => absurd (Mi 6 2 (by decide) (by decide) z) (by decide))).trans M7, (ac_hsN (fun z => absurd (Mi 7 2 (by decide) (by decide) z) (by decide))).trans M8, Mi, Mn⟩ (fun b hb hj => ac_hsN (hj 2 (by decide)))
theorem md_wwd (M : m_md h mm ar S ve el co) {x : Int32} {q : Nat} {v : Int32} {o : Nat} (hx : x = nI q) (hq : q < 520) (hv : v = nI o) (K : ∀ h', m_md h' mm ar (m_swd S q o) ve el co → m_fr mm ar h h' → P nx lv r h' k n) : ∃ (z : Nat) (f : Nat → Int32), h (ar 3) = some (.inr (0, z, .inl f)) ∧ vp_in x z ∧ P nx lv r (ac_hs h (ar 3) (.inr (0, z, .inl (upd f x.toNatClampNeg v)))) k n := by
  obtain ⟨M0, M1, M2, M3, M4, M5, M6, M7, M8, Mi, Mn⟩ := M
  subst hx
  subst hv
  have e : upd (fun i => nI (m_wd S i)) q (nI o) = fun i => nI (va_up (m_wd S) q o i) := upd_map
  refine ⟨_, _, M4, vp_in_nI hq (by decide), ?_⟩
  rw [nI_clamp (by omega)]
  rw [e]
  exact K _ ⟨(ac_hsN (fun z => Mn 3 (by decide) z.symm)).trans M0, (ac_hsN (fun z => absurd (Mi 0 3 (by decide) (by decide) z) (by decide))).trans M1, (ac_hsN (fun z => absurd (Mi 1 3 (by decide) (by decide) z) (by decide))).trans M2, (ac_hsN (fun z => absurd (Mi 2 3 (by decide) (by decide) z) (by decide))).trans M3, ac_hsE, (ac_hsN (fun z => absurd (Mi 4 3 (by decide) (by decide) z) (by decide))).trans M5, (ac_hsN (fun z => absurd (Mi 5 3 (by decide) (by decide) z) (by decide))).trans M6, (ac_hsN (fun z => absurd (Mi 6 3 (by decide) (by decide) z) (by decide))).trans M7, (ac_hsN (fun z => absurd (Mi 7 3 (by decide) (by decide) z) (by decide))).trans M8, Mi, Mn⟩ (fun b hb hj => ac_hsN (hj 3 (by decide)))
theorem md_wbs (M : m_md h mm ar S ve el co) {x : Int32} {q : Nat} {v : Int32} {o : Nat} (hx : x = nI q) (hq : q < 520) (hv : v = nI o) (K : ∀ h', m_md h' mm ar (m_sbs S q o) ve el co → m_fr mm ar h h' → P nx lv r h' k n) : ∃ (z : Nat) (f : Nat → Int32), h (ar 4) = some (.inr (0, z, .inl f)) ∧ vp_in x z ∧ P nx lv r (ac_hs h (ar 4) (.inr (0, z, .inl (upd f x.toNatClampNeg v)))) k n := by
  obtain ⟨M0, M1, M2, M3, M4, M5, M6, M7, M8, Mi, Mn⟩ := M
  subst hx
  subst hv
  have e : upd (fun i => nI (m_bs S i)) q (nI o) = fun i => nI (va_up (m_bs S) q o i) := upd_map
  refine ⟨_, _, M5, vp_in_nI hq (by decide), ?_⟩
  rw [nI_clamp (by omega)]
  rw [e]
  exact K _ ⟨(ac_hsN (fun z => Mn 4 (by decide) z.symm)).trans M0, (ac_hsN (fun z => absurd (Mi 0 4 (by decide) (by decide) z) (by decide))).trans M1, (ac_hsN (fun z => absurd (Mi 1 4 (by decide) (by decide) z) (by decide))).trans M2, (ac_hsN (fun z => absurd (Mi 2 4 (by decide) (by decide) z) (by decide))).trans M3, (ac_hsN (fun z => absurd (Mi 3 4 (by decide) (by decide) z) (by decide))).trans M4, ac_hsE, (ac_hsN (fun z => absurd (Mi 5 4 (by decide) (by decide) z) (by decide))).trans M6, (ac_hsN (fun z => absurd (Mi 6 4 (by decide) (by decide) z) (by decide))).trans M7, (ac_hsN (fun z => absurd (Mi 7 4 (by decide) (by decide) z) (by decide))).trans M8, Mi, Mn⟩ (fun b hb hj => ac_hsN (hj 4 (by decide)))
theorem md_wof (M : m_md h mm ar S ve el co) {x : Int32} {q : Nat} {v : Int32} {o : Int32} (hx : x = nI q) (hq : q < 520) (hv : v = o) (K : ∀ h', m_md h' mm ar (m_sof S q o) ve el co → m_fr mm ar h h' → P nx lv r h' k n) : ∃ (z : Nat) (f : Nat → Int32), h (ar 5) = some (.inr (0, z, .inl f)) ∧ vp_in x z ∧ P nx lv r (ac_hs h (ar 5) (.inr (0, z, .inl (upd f x.toNatClampNeg v)))) k n := by
  obtain ⟨M0, M1, M2, M3, M4, M5, M6, M7, M8, Mi, Mn⟩ := M
  subst hx
  subst hv
  refine ⟨_, _, M6, vp_in_nI hq (by decide), ?_⟩
  rw [nI_clamp (by omega)]
  exact K _ ⟨(ac_hsN (fun z => Mn 5 (by decide) z.symm)).trans M0, (ac_hsN (fun z => absurd (Mi 0 5 (by decide) (by decide) z) (by decide))).trans M1, (ac_hsN (fun z => absurd (Mi 1 5 (by decide) (by decide) z) (by decide))).trans M2, (ac_hsN (fun z => absurd (Mi 2 5 (by decide) (by decide) z) (by decide))).trans M3, (ac_hsN (fun z => absurd (Mi 3 5 (by decide) (by decide) z) (by decide))).trans M4, (ac_hsN (fun z => absurd (Mi 4 5 (by decide) (by decide) z) (by decide))).trans M5, ac_hsE, (ac_hsN (fun z => absurd (Mi 6 5 (by decide) (by decide) z) (by decide))).trans M7, (ac_hsN (fun z => absurd (Mi 7 5 (by decide) (by decide) z) (by decide))).trans M8, Mi, Mn⟩ (fun b hb hj => ac_hsN (hj 5 (by decide)))
theorem md_wst (M : m_md h mm ar S ve el co) {x : Int32} {q : Nat} {v : Int64} {o : Int64} (hx : x = nI q) (hq : q < 12480) (hv : v = o) (K : ∀ h', m_md h' mm ar (m_sst S q o) ve el co → m_fr mm ar h h' → P nx lv r h' k n) : ∃ (z : Nat) (f : Nat → Int64), h (ar 6) = some (.inr (2, z, .inr (.inl f))) ∧ vp_in x z ∧ P nx lv r (ac_hs h (ar 6) (.inr (2, z, .inr (.inl (vp_updL f x.toNatClampNeg v))))) k n := by
  obtain ⟨M0, M1, M2, M3, M4, M5, M6, M7, M8, Mi, Mn⟩ := M
  subst hx
  subst hv
  refine ⟨_, _, M7, vp_in_nI hq (by decide), ?_⟩
  rw [nI_clamp (by omega)]
  exact K _ ⟨(ac_hsN (fun z => Mn 6 (by decide) z.symm)).trans M0, (ac_hsN (fun z => absurd (Mi 0 6 (by decide) (by decide) z) (by decide))).trans M1, (ac_hsN (fun z => absurd (Mi 1 6 (by decide) (by decide) z) (by decide))).trans M2, (ac_hsN (fun z => absurd (Mi 2 6 (by decide) (by decide) z) (by decide))).trans M3, (ac_hsN (fun z => absurd (Mi 3 6 (by decide) (by decide) z) (by decide))).trans M4, (ac_hsN (fun z => absurd (Mi 4 6 (by decide) (by decide) z) (by decide))).trans M5, (ac_hsN (fun z => absurd (Mi 5 6 (by decide) (by decide) z) (by decide))).trans M6, ac_hsE, (ac_hsN (fun z => absurd (Mi 7 6 (by decide) (by decide) z) (by decide))).trans M8, Mi, Mn⟩ (fun b hb hj => ac_hsN (hj 6 (by decide)))
theorem md_wlo (M : m_md h mm ar S ve el co) {x : Int32} {q : Nat} {v : Int32} {o : Bool} (hx : x = nI q) (hq : q < 3120) (hv : v = m_bv o) (K : ∀ h', m_md h' mm ar (m_slo S q o) ve el co → m_fr mm ar h h' → P nx lv r h' k n) : ∃ (z : Nat) (f : Nat → Int32), h (ar 7) = some (.inr (1, z, .inl f)) ∧ vp_in x z ∧ (v = 0 ∨ v = 1) ∧ P nx lv r (ac_hs h (ar 7) (.inr (1, z, .inl (upd f x.toNatClampNeg v)))) k n := by
  obtain ⟨M0, M1, M2, M3, M4, M5, M6, M7, M8, Mi, Mn⟩ := M
  subst hx
  subst hv
  have e : upd (fun i => m_bv (m_lo S i)) q (m_bv o) = fun i => m_bv (va_up (m_lo S) q o i) := upd_map
  refine ⟨_, _, M8, vp_in_nI hq (by decide), (by cases o; exact Or.inl rfl; exact Or.inr rfl), ?_⟩
  rw [nI_clamp (by omega)]
  rw [e]
  exact K _ ⟨(ac_hsN (fun z => Mn 7 (by decide) z.symm)).trans M0, (ac_hsN (fun z => absurd (Mi 0 7 (by decide) (by decide) z) (by decide))).trans M1, (ac_hsN (fun z => absurd (Mi 1 7 (by decide) (by decide) z) (by decide))).trans M2, (ac_hsN (fun z => absurd (Mi 2 7 (by decide) (by decide) z) (by decide))).trans M3, (ac_hsN (fun z => absurd (Mi 3 7 (by decide) (by decide) z) (by decide))).trans M4, (ac_hsN (fun z => absurd (Mi 4 7 (by decide) (by decide) z) (by decide))).trans M5, (ac_hsN (fun z => absurd (Mi 5 7 (by decide) (by decide) z) (by decide))).trans M6, (ac_hsN (fun z => absurd (Mi 6 7 (by decide) (by decide) z) (by decide))).trans M7, ac_hsE, Mi, Mn⟩ (fun b hb hj => ac_hsN (hj 7 (by decide)))
theorem md_wmk (M : m_md h mm ar S ve el co) {v : Int32} {o : Nat} (hv : v = nI o) (K : ∀ h', m_md h' mm ar (m_smk S o) ve el co → m_fr mm ar h h' → P nx lv r h' k n) : ∃ fs : List Value, h mm = some (.inl (9, fs)) ∧ ac_kv (ac_fk 9 8) (.int v) (ac_sf fs 8 (.int v) (fun fs' => P nx lv r (ac_hs h mm (.inl (9, fs'))) k n)) := by
  subst hv
  obtain ⟨M0, M1, M2, M3, M4, M5, M6, M7, M8, Mi, Mn⟩ := M
  refine ⟨_, M0, ?_⟩
  exact K _ ⟨ac_hsE, (ac_hsN (Mn 0 (by decide))).trans M1, (ac_hsN (Mn 1 (by decide))).trans M2, (ac_hsN (Mn 2 (by decide))).trans M3, (ac_hsN (Mn 3 (by decide))).trans M4, (ac_hsN (Mn 4 (by decide))).trans M5, (ac_hsN (Mn 5 (by decide))).trans M6, (ac_hsN (Mn 6 (by decide))).trans M7, (ac_hsN (Mn 7 (by decide))).trans M8, Mi, Mn⟩ (fun b hb hj => ac_hsN hb)
theorem md_wve (M : m_md h mm ar S ve el co) {v : Int32} (K : ∀ h', m_md h' mm ar S v el co → m_fr mm ar h h' → P nx lv r h' k n) : ∃ fs : List Value, h mm = some (.inl (9, fs)) ∧ ac_kv (ac_fk 9 9) (.int v) (ac_sf fs 9 (.int v) (fun fs' => P nx lv r (ac_hs h mm (.inl (9, fs'))) k n)) := by
  obtain ⟨M0, M1, M2, M3, M4, M5, M6, M7, M8, Mi, Mn⟩ := M
  refine ⟨_, M0, ?_⟩
  exact K _ ⟨ac_hsE, (ac_hsN (Mn 0 (by decide))).trans M1, (ac_hsN (Mn 1 (by decide))).trans M2, (ac_hsN (Mn 2 (by decide))).trans M3, (ac_hsN (Mn 3 (by decide))).trans M4, (ac_hsN (Mn 4 (by decide))).trans M5, (ac_hsN (Mn 5 (by decide))).trans M6, (ac_hsN (Mn 6 (by decide))).trans M7, (ac_hsN (Mn 7 (by decide))).trans M8, Mi, Mn⟩ (fun b hb hj => ac_hsN hb)
theorem md_wel (M : m_md h mm ar S ve el co) {v : Int32} (K : ∀ h', m_md h' mm ar S ve v co → m_fr mm ar h h' → P nx lv r h' k n) : ∃ fs : List Value, h mm = some (.inl (9, fs)) ∧ ac_kv (ac_fk 9 10) (.int v) (ac_sf fs 10 (.int v) (fun fs' => P nx lv r (ac_hs h mm (.inl (9, fs'))) k n)) := by
  obtain ⟨M0, M1, M2, M3, M4, M5, M6, M7, M8, Mi, Mn⟩ := M
  refine ⟨_, M0, ?_⟩
  exact K _ ⟨ac_hsE, (ac_hsN (Mn 0 (by decide))).trans M1, (ac_hsN (Mn 1 (by decide))).trans M2, (ac_hsN (Mn 2 (by decide))).trans M3, (ac_hsN (Mn 3 (by decide))).trans M4, (ac_hsN (Mn 4 (by decide))).trans M5, (ac_hsN (Mn 5 (by decide))).trans M6, (ac_hsN (Mn 6 (by decide))).trans M7, (ac_hsN (Mn 7 (by decide))).trans M8, Mi, Mn⟩ (fun b hb hj => ac_hsN hb)
theorem md_wco (M : m_md h mm ar S ve el co) {v : Int32} (K : ∀ h', m_md h' mm ar S ve el v → m_fr mm ar h h' → P nx lv r h' k n) : ∃ fs : List Value, h mm = some (.inl (9, fs)) ∧ ac_kv (ac_fk 9 11) (.int v) (ac_sf fs 11 (.int v) (fun fs' => P nx lv r (ac_hs h mm (.inl (9, fs'))) k n)) := by
  obtain ⟨M0, M1, M2, M3, M4, M5, M6, M7, M8, Mi, Mn⟩ := M
  refine ⟨_, M0, ?_⟩
  exact K _ ⟨ac_hsE, (ac_hsN (Mn 0 (by decide))).trans M1, (ac_hsN (Mn 1 (by decide))).trans M2, (ac_hsN (Mn 2 (by decide))).trans M3, (ac_hsN (Mn 3 (by decide))).trans M4, (ac_hsN (Mn 4 (by decide))).trans M5, (ac_hsN (Mn 5 (by decide))).trans M6, (ac_hsN (Mn 6 (by decide))).trans M7, (ac_hsN (Mn 7 (by decide))).trans M8, Mi, Mn⟩ (fun b hb hj => ac_hsN hb)
end MMD
/-- the exception's number, or 7: none; what the class's call ends in -/
def m_out : Nat → Option Value → ac_O
  | 7, v => .inl v
  | x, _ => .inr x
def m_app {α : Type} (K : Nat → α → m_S → Prop) (t : Nat × α × m_S) : Prop := K t.1 t.2.1 t.2.2
/-- the reference's numbers of the exceptions, by the call's table -/
def m_ct : Nat → Nat → Int32
  | _, 7 => 0
  | _, 0 => 1
  | 0, 1 => 2
  | 0, 2 => 3
  | 0, 6 => 5
  | 0, _ => 4
  | 1, 2 => 2
  | 1, 1 => 3
  | 1, 6 => 5
  | 1, _ => 4
  | _, _ => 2
