/-! ===== the methods: data, code, contract ===== -/
-- J7_copyOf_c38d5
abbrev rm_J7_copyOf_c38d5 : Room := { frames := 1, cells := 2, slots := 48, locals := 80 }
abbrev M_J7_copyOf_c38d5 : ac_D := (RJ7, "copyOf", cJ7_copyOf_c38d5, 3, some (FieldType.array FieldType.long), [], rm_J7_copyOf_c38d5)
theorem tb_J7_copyOf_c38d5 : ac_tb RJ7 [] := fun q h => (by cases h)
theorem dy_J7_copyOf_c38d5 : yJ7_copyOf_c38d5.cls ≠ "java/lang/invoke/MethodHandle" ∧ yJ7_copyOf_c38d5.cls ≠ "java/lang/invoke/VarHandle" ∧ (parseMethodDescriptor yJ7_copyOf_c38d5.desc).map (fun d => d.parameters.length) = some 2 := by decide +kernel
def k_J7_copyOf_c38d5 : List (Nat × ac_op) := [(0, op_iload 1 1),
  (1, op_aload 0 2),
  (2, op_alen 2 3),
  (3, op_icmp (fun x y => ¬ x = y) 14 6),
  (6, op_aload 0 7),
  (7, op_cloneJ rm_J7_copyOf_c38d5 10),
  (10, op_castJ 13),
  (13, op_areturn rm_J7_copyOf_c38d5),
  (14, op_iload 1 15),
  (15, op_newa rm_J7_copyOf_c38d5 2 17),
  (17, op_astore 2 18),
  (18, op_aload 0 19),
  (19, op_push (.int 0) 20),
  (20, op_aload 2 21),
  (21, op_push (.int 0) 22),
  (22, op_aload 0 23),
  (23, op_alen 2 24),
  (24, op_iload 1 25),
  (25, op_min rm_J7_copyOf_c38d5 28),
  (28, op_copyJ 31),
  (31, op_aload 2 32),
  (32, op_areturn rm_J7_copyOf_c38d5)]
def T_J7_copyOf_c38d5 : ac_T := ac_vc k_J7_copyOf_c38d5 3
set_option maxRecDepth 100000 in
set_option maxHeartbeats 4000000 in
theorem s_J7_copyOf_c38d5 : ∀ x ∈ k_J7_copyOf_c38d5, ac_So M_J7_copyOf_c38d5 (fun _ _ _ => False) x.1 x.2 :=
  ac_cons (so_iload_n dJ7_copyOf_c38d5_0 rfl rfl) <|
  ac_cons (so_aload_n dJ7_copyOf_c38d5_1 rfl rfl) <|
  ac_cons (so_alen (t := 2) (ty := .long) (fun _ => rfl) dJ7_copyOf_c38d5_2 rfl) <|
  ac_cons (so_icmp_ne dJ7_copyOf_c38d5_3 (by decide) rfl) <|
  ac_cons (so_aload_n dJ7_copyOf_c38d5_6 rfl rfl) <|
  ac_cons (so_cloneJ dJ7_copyOf_c38d5_7 wd_452 (by decide +kernel) (by decide +kernel) ⟨by decide, by decide⟩ rfl) <|
  ac_cons (so_castJ dJ7_copyOf_c38d5_10 wd_458 rfl) <|
  ac_cons (so_areturn rfl (by first | exact Or.inl ⟨_, rfl⟩ | exact Or.inr ⟨_, rfl⟩) dJ7_copyOf_c38d5_13) <|
  ac_cons (so_iload_n dJ7_copyOf_c38d5_14 rfl rfl) <|
  ac_cons (so_newJ wd_211 dJ7_copyOf_c38d5_15 rfl) <|
  ac_cons (so_astore_n dJ7_copyOf_c38d5_17 rfl rfl) <|
  ac_cons (so_aload_n dJ7_copyOf_c38d5_18 rfl rfl) <|
  ac_cons (so_iconst dJ7_copyOf_c38d5_19 (by decide +kernel) rfl) <|
  ac_cons (so_aload_n dJ7_copyOf_c38d5_20 rfl rfl) <|
  ac_cons (so_iconst dJ7_copyOf_c38d5_21 (by decide +kernel) rfl) <|
  ac_cons (so_aload_n dJ7_copyOf_c38d5_22 rfl rfl) <|
  ac_cons (so_alen (t := 2) (ty := .long) (fun _ => rfl) dJ7_copyOf_c38d5_23 rfl) <|
  ac_cons (so_iload_n dJ7_copyOf_c38d5_24 rfl rfl) <|
  ac_cons (so_min dJ7_copyOf_c38d5_25 wd_459 ac_mw2 ⟨by decide, by decide⟩ rfl) <|
  ac_cons (so_copyJ dJ7_copyOf_c38d5_28 wd_460 (by decide +kernel) ⟨by decide, by decide +kernel⟩ rfl) <|
  ac_cons (so_aload_n dJ7_copyOf_c38d5_31 rfl rfl) <|
  ac_cons (so_areturn rfl (by first | exact Or.inl ⟨_, rfl⟩ | exact Or.inr ⟨_, rfl⟩) dJ7_copyOf_c38d5_32) <| ac_nil
theorem C_J7_copyOf_c38d5 : ac_Ct yJ7_copyOf_c38d5 M_J7_copyOf_c38d5 T_J7_copyOf_c38d5 := ac_meth (by decide +kernel) rfl rfl rfl rfl s_J7_copyOf_c38d5
-- X1_init
abbrev rm_X1_init : Room := { frames := 1, cells := 0, slots := 0, locals := 20 }
abbrev M_X1_init : ac_D := (RX1, "<init>", cX1_init, 1, none, [], rm_X1_init)
theorem tb_X1_init : ac_tb RX1 [] := fun q h => (by cases h)
theorem dy_X1_init : yX1_init.cls ≠ "java/lang/invoke/MethodHandle" ∧ yX1_init.cls ≠ "java/lang/invoke/VarHandle" ∧ (parseMethodDescriptor yX1_init.desc).map (fun d => d.parameters.length) = some 0 := by decide +kernel
def k_X1_init : List (Nat × ac_op) := [(0, op_aload 0 1),
  (1, op_objinit 4),
  (4, op_return rm_X1_init)]
def T_X1_init : ac_T := ac_vc k_X1_init 1
set_option maxRecDepth 100000 in
set_option maxHeartbeats 4000000 in
theorem s_X1_init : ∀ x ∈ k_X1_init, ac_So M_X1_init (fun _ _ _ => False) x.1 x.2 :=
  ac_cons (so_aload_n dX1_init_0 rfl rfl) <|
  ac_cons (so_objinit dX1_init_1 wd_194 wd_52 wd_53 ⟨by decide, by decide⟩ rfl) <|
  ac_cons (so_return rfl dX1_init_4) <| ac_nil
theorem C_X1_init : ac_Ct yX1_init M_X1_init T_X1_init := ac_meth (by decide +kernel) rfl rfl rfl rfl s_X1_init
-- X0_init
abbrev rm_X0_init : Room := { frames := 2, cells := 7, slots := 30, locals := 40 }
abbrev M_X0_init : ac_D := (RX0, "<init>", cX0_init, 3, none, [], rm_X0_init)
theorem tb_X0_init : ac_tb RX0 [] := fun q h => (by cases h)
theorem dy_X0_init : yX0_init.cls ≠ "java/lang/invoke/MethodHandle" ∧ yX0_init.cls ≠ "java/lang/invoke/VarHandle" ∧ (parseMethodDescriptor yX0_init.desc).map (fun d => d.parameters.length) = some 2 := by decide +kernel
def k_X0_init : List (Nat × ac_op) := [(0, op_aload 0 1),
  (1, op_callI rm_X0_init [] T_X1_init rm_X1_init 0 1 4),
  (4, op_aload 0 5),
  (5, op_iload 1 6),
  (6, op_iload 2 7),
  (7, op_mnew rm_X0_init 11),
  (11, op_put 4 0 14),
  (14, op_return rm_X0_init)]
def T_X0_init : ac_T := ac_vc k_X0_init 3
set_option maxRecDepth 100000 in
set_option maxHeartbeats 4000000 in
theorem s_X0_init : ∀ x ∈ k_X0_init, ac_So M_X0_init (fun _ _ _ => False) x.1 x.2 :=
  ac_cons (so_aload_n dX0_init_0 rfl rfl) <|
  ac_cons (so_callIN (N := M_X1_init) C_X1_init rfl rfl ⟨wd_193, wd_32, dy_X1_init, ⟨by decide, by decide⟩, tb_X0_init⟩ dX0_init_1 wd_228 wd_192 rfl rfl) <|
  ac_cons (so_aload_n dX0_init_4 rfl rfl) <|
  ac_cons (so_iload_n dX0_init_5 rfl rfl) <|
  ac_cons (so_iload_n dX0_init_6 rfl rfl) <|
  ac_cons (so_mnew dX0_init_7 wd_229 wd_210 rfl) <|
  ac_cons (so_putF (ci := 4) (f := 0) rfl in_X0 tyX0_ok nmX0 (by decide) rfl rfl rfl rfl dX0_init_11 wd_231 rfl) <|
  ac_cons (so_return rfl dX0_init_14) <| ac_nil
theorem C_X0_init : ac_Ct yX0_init M_X0_init T_X0_init := ac_meth (by decide +kernel) rfl rfl rfl rfl s_X0_init
-- X0_sort
abbrev rm_X0_sort : Room := { frames := 0, cells := 0, slots := 0, locals := 0 }
abbrev M_X0_sort : ac_D := (RX0, "sort", cX0_sort, 1, some FieldType.int, [], rm_X0_sort)
theorem tb_X0_sort : ac_tb RX0 [] := fun q h => (by cases h)
theorem dy_X0_sort : yX0_sort.cls ≠ "java/lang/invoke/MethodHandle" ∧ yX0_sort.cls ≠ "java/lang/invoke/VarHandle" ∧ (parseMethodDescriptor yX0_sort.desc).map (fun d => d.parameters.length) = some 0 := by decide +kernel
def k_X0_sort : List (Nat × ac_op) := [(0, op_push (.int 9) 2),
  (2, op_ireturn rm_X0_sort)]
def T_X0_sort : ac_T := ac_vc k_X0_sort 1
set_option maxRecDepth 100000 in
set_option maxHeartbeats 4000000 in
theorem s_X0_sort : ∀ x ∈ k_X0_sort, ac_So M_X0_sort (fun _ _ _ => False) x.1 x.2 :=
  ac_cons (so_bipush dX0_sort_0 (by decide +kernel) rfl) <|
  ac_cons (so_ireturn rfl dX0_sort_2) <| ac_nil
theorem C_X0_sort : ac_Ct yX0_sort M_X0_sort T_X0_sort := ac_meth (by decide +kernel) rfl rfl rfl rfl s_X0_sort
-- X1_ground
abbrev rm_X1_ground : Room := { frames := 0, cells := 0, slots := 0, locals := 0 }
abbrev M_X1_ground : ac_D := (RX1, "ground", cX1_ground, 1, some (FieldType.object "TypedHall$VectorItem"), [], rm_X1_ground)
theorem tb_X1_ground : ac_tb RX1 [] := fun q h => (by cases h)
theorem dy_X1_ground : yX1_ground.cls ≠ "java/lang/invoke/MethodHandle" ∧ yX1_ground.cls ≠ "java/lang/invoke/VarHandle" ∧ (parseMethodDescriptor yX1_ground.desc).map (fun d => d.parameters.length) = some 0 := by decide +kernel
def k_X1_ground : List (Nat × ac_op) := [(0, op_push .null 1),
  (1, op_areturn rm_X1_ground)]
def T_X1_ground : ac_T := ac_vc k_X1_ground 1
set_option maxRecDepth 100000 in
set_option maxHeartbeats 4000000 in
theorem s_X1_ground : ∀ x ∈ k_X1_ground, ac_So M_X1_ground (fun _ _ _ => False) x.1 x.2 :=
  ac_cons (so_null dX1_ground_0 rfl) <|
  ac_cons (so_areturn rfl (by first | exact Or.inl ⟨_, rfl⟩ | exact Or.inr ⟨_, rfl⟩) dX1_ground_1) <| ac_nil
theorem C_X1_ground : ac_Ct yX1_ground M_X1_ground T_X1_ground := ac_meth (by decide +kernel) rfl rfl rfl rfl s_X1_ground
-- X1_shift
abbrev rm_X1_shift : Room := { frames := 0, cells := 0, slots := 0, locals := 0 }
abbrev M_X1_shift : ac_D := (RX1, "shift", cX1_shift, 1, some FieldType.int, [], rm_X1_shift)
theorem tb_X1_shift : ac_tb RX1 [] := fun q h => (by cases h)
theorem dy_X1_shift : yX1_shift.cls ≠ "java/lang/invoke/MethodHandle" ∧ yX1_shift.cls ≠ "java/lang/invoke/VarHandle" ∧ (parseMethodDescriptor yX1_shift.desc).map (fun d => d.parameters.length) = some 0 := by decide +kernel
def k_X1_shift : List (Nat × ac_op) := [(0, op_push (.int 0) 1),
  (1, op_ireturn rm_X1_shift)]
def T_X1_shift : ac_T := ac_vc k_X1_shift 1
set_option maxRecDepth 100000 in
set_option maxHeartbeats 4000000 in
theorem s_X1_shift : ∀ x ∈ k_X1_shift, ac_So M_X1_shift (fun _ _ _ => False) x.1 x.2 :=
  ac_cons (so_iconst dX1_shift_0 (by decide +kernel) rfl) <|
  ac_cons (so_ireturn rfl dX1_shift_1) <| ac_nil
theorem C_X1_shift : ac_Ct yX1_shift M_X1_shift T_X1_shift := ac_meth (by decide +kernel) rfl rfl rfl rfl s_X1_shift
-- X1_windows
abbrev rm_X1_windows : Room := { frames := 0, cells := 0, slots := 0, locals := 0 }
abbrev M_X1_windows : ac_D := (RX1, "windows", cX1_windows, 1, some FieldType.int, [], rm_X1_windows)
theorem tb_X1_windows : ac_tb RX1 [] := fun q h => (by cases h)
theorem dy_X1_windows : yX1_windows.cls ≠ "java/lang/invoke/MethodHandle" ∧ yX1_windows.cls ≠ "java/lang/invoke/VarHandle" ∧ (parseMethodDescriptor yX1_windows.desc).map (fun d => d.parameters.length) = some 0 := by decide +kernel
def k_X1_windows : List (Nat × ac_op) := [(0, op_push (.int 0) 1),
  (1, op_ireturn rm_X1_windows)]
def T_X1_windows : ac_T := ac_vc k_X1_windows 1
set_option maxRecDepth 100000 in
set_option maxHeartbeats 4000000 in
theorem s_X1_windows : ∀ x ∈ k_X1_windows, ac_So M_X1_windows (fun _ _ _ => False) x.1 x.2 :=
  ac_cons (so_iconst dX1_windows_0 (by decide +kernel) rfl) <|
  ac_cons (so_ireturn rfl dX1_windows_1) <| ac_nil
theorem C_X1_windows : ac_Ct yX1_windows M_X1_windows T_X1_windows := ac_meth (by decide +kernel) rfl rfl rfl rfl s_X1_windows
-- X2_init
abbrev rm_X2_init : Room := { frames := 2, cells := 0, slots := 0, locals := 40 }
abbrev M_X2_init : ac_D := (RX2, "<init>", cX2_init, 1, none, [], rm_X2_init)
theorem tb_X2_init : ac_tb RX2 [] := fun q h => (by cases h)
theorem dy_X2_init : yX2_init.cls ≠ "java/lang/invoke/MethodHandle" ∧ yX2_init.cls ≠ "java/lang/invoke/VarHandle" ∧ (parseMethodDescriptor yX2_init.desc).map (fun d => d.parameters.length) = some 0 := by decide +kernel
def k_X2_init : List (Nat × ac_op) := [(0, op_aload 0 1),
  (1, op_callI rm_X2_init [] T_X1_init rm_X1_init 0 1 4),
  (4, op_aload 0 5),
  (5, op_push (.long 0) 6),
  (6, op_put 5 0 9),
  (9, op_aload 0 10),
  (10, op_push .null 11),
  (11, op_put 5 1 14),
  (14, op_return rm_X2_init)]
def T_X2_init : ac_T := ac_vc k_X2_init 1
set_option maxRecDepth 100000 in
set_option maxHeartbeats 4000000 in
theorem s_X2_init : ∀ x ∈ k_X2_init, ac_So M_X2_init (fun _ _ _ => False) x.1 x.2 :=
  ac_cons (so_aload_n dX2_init_0 rfl rfl) <|
  ac_cons (so_callIN (N := M_X1_init) C_X1_init rfl rfl ⟨wd_193, wd_32, dy_X1_init, ⟨by decide, by decide⟩, tb_X2_init⟩ dX2_init_1 wd_248 wd_192 rfl rfl) <|
  ac_cons (so_aload_n dX2_init_4 rfl rfl) <|
  ac_cons (so_lconst dX2_init_5 (by decide +kernel) rfl) <|
  ac_cons (so_put (ci := 5) (f := 0) rfl in_X2 tyX2_ok nmX2 (by decide) rfl rfl dX2_init_6 wd_249 rfl) <|
  ac_cons (so_aload_n dX2_init_9 rfl rfl) <|
  ac_cons (so_null dX2_init_10 rfl) <|
  ac_cons (so_put (ci := 5) (f := 1) rfl in_X2 tyX2_ok nmX2 (by decide) rfl rfl dX2_init_11 wd_251 rfl) <|
  ac_cons (so_return rfl dX2_init_14) <| ac_nil
theorem C_X2_init : ac_Ct yX2_init M_X2_init T_X2_init := ac_meth (by decide +kernel) rfl rfl rfl rfl s_X2_init
-- X2_sort
abbrev rm_X2_sort : Room := { frames := 0, cells := 0, slots := 0, locals := 0 }
abbrev M_X2_sort : ac_D := (RX2, "sort", cX2_sort, 1, some FieldType.int, [], rm_X2_sort)
theorem tb_X2_sort : ac_tb RX2 [] := fun q h => (by cases h)
theorem dy_X2_sort : yX2_sort.cls ≠ "java/lang/invoke/MethodHandle" ∧ yX2_sort.cls ≠ "java/lang/invoke/VarHandle" ∧ (parseMethodDescriptor yX2_sort.desc).map (fun d => d.parameters.length) = some 0 := by decide +kernel
def k_X2_sort : List (Nat × ac_op) := [(0, op_push (.int 10) 2),
  (2, op_ireturn rm_X2_sort)]
def T_X2_sort : ac_T := ac_vc k_X2_sort 1
set_option maxRecDepth 100000 in
set_option maxHeartbeats 4000000 in
theorem s_X2_sort : ∀ x ∈ k_X2_sort, ac_So M_X2_sort (fun _ _ _ => False) x.1 x.2 :=
  ac_cons (so_bipush dX2_sort_0 (by decide +kernel) rfl) <|
  ac_cons (so_ireturn rfl dX2_sort_2) <| ac_nil
theorem C_X2_sort : ac_Ct yX2_sort M_X2_sort T_X2_sort := ac_meth (by decide +kernel) rfl rfl rfl rfl s_X2_sort
-- X3_init
abbrev rm_X3_init : Room := { frames := 2, cells := 2, slots := 48, locals := 40 }
abbrev M_X3_init : ac_D := (RX3, "<init>", cX3_init, 3, none, [], rm_X3_init)
theorem tb_X3_init : ac_tb RX3 [] := fun q h => (by cases h)
theorem dy_X3_init : yX3_init.cls ≠ "java/lang/invoke/MethodHandle" ∧ yX3_init.cls ≠ "java/lang/invoke/VarHandle" ∧ (parseMethodDescriptor yX3_init.desc).map (fun d => d.parameters.length) = some 2 := by decide +kernel
def k_X3_init : List (Nat × ac_op) := [(0, op_aload 0 1),
  (1, op_callI rm_X3_init [] T_X1_init rm_X1_init 0 1 4),
  (4, op_aload 0 5),
  (5, op_iload 1 6),
  (6, op_put 6 0 9),
  (9, op_iload 1 10),
  (10, op_push (.int 8) 12),
  (12, op_icmp (fun x y => ¬ x = y) 26 15),
  (15, op_aload 0 16),
  (16, op_iload 2 17),
  (17, op_newa rm_X3_init 3 20),
  (20, op_put 6 2 23),
  (23, op_goto 33),
  (26, op_aload 0 27),
  (27, op_iload 2 28),
  (28, op_newa rm_X3_init 2 30),
  (30, op_put 6 1 33),
  (33, op_return rm_X3_init)]
def T_X3_init : ac_T := ac_vc k_X3_init 3
set_option maxRecDepth 100000 in
set_option maxHeartbeats 4000000 in
theorem s_X3_init : ∀ x ∈ k_X3_init, ac_So M_X3_init (fun _ _ _ => False) x.1 x.2 :=
  ac_cons (so_aload_n dX3_init_0 rfl rfl) <|
  ac_cons (so_callIN (N := M_X1_init) C_X1_init rfl rfl ⟨wd_193, wd_32, dy_X1_init, ⟨by decide, by decide⟩, tb_X3_init⟩ dX3_init_1 wd_191 wd_192 rfl rfl) <|
  ac_cons (so_aload_n dX3_init_4 rfl rfl) <|
  ac_cons (so_iload_n dX3_init_5 rfl rfl) <|
  ac_cons (so_putF (ci := 6) (f := 0) rfl in_X3 tyX3_ok nmX3 (by decide) rfl rfl rfl rfl dX3_init_6 wd_196 rfl) <|
  ac_cons (so_iload_n dX3_init_9 rfl rfl) <|
  ac_cons (so_bipush dX3_init_10 (by decide +kernel) rfl) <|
  ac_cons (so_icmp_ne dX3_init_12 (by decide) rfl) <|
  ac_cons (so_aload_n dX3_init_15 rfl rfl) <|
  ac_cons (so_iload_n dX3_init_16 rfl rfl) <|
  ac_cons (so_newq dX3_init_17 wd_195 rfl) <|
  ac_cons (so_put (ci := 6) (f := 2) rfl in_X3 tyX3_ok nmX3 (by decide) rfl rfl dX3_init_20 wd_201 rfl) <|
  ac_cons (so_goto dX3_init_23 (by decide)) <|
  ac_cons (so_aload_n dX3_init_26 rfl rfl) <|
  ac_cons (so_iload_n dX3_init_27 rfl rfl) <|
  ac_cons (so_newJ wd_211 dX3_init_28 rfl) <|
  ac_cons (so_put (ci := 6) (f := 1) rfl in_X3 tyX3_ok nmX3 (by decide) rfl rfl dX3_init_30 wd_199 rfl) <|
  ac_cons (so_return rfl dX3_init_33) <| ac_nil
theorem C_X3_init : ac_Ct yX3_init M_X3_init T_X3_init := ac_meth (by decide +kernel) rfl rfl rfl rfl s_X3_init
-- X3_sort
abbrev rm_X3_sort : Room := { frames := 0, cells := 0, slots := 0, locals := 0 }
abbrev M_X3_sort : ac_D := (RX3, "sort", cX3_sort, 1, some FieldType.int, [], rm_X3_sort)
theorem tb_X3_sort : ac_tb RX3 [] := fun q h => (by cases h)
theorem dy_X3_sort : yX3_sort.cls ≠ "java/lang/invoke/MethodHandle" ∧ yX3_sort.cls ≠ "java/lang/invoke/VarHandle" ∧ (parseMethodDescriptor yX3_sort.desc).map (fun d => d.parameters.length) = some 0 := by decide +kernel
def k_X3_sort : List (Nat × ac_op) := [(0, op_aload 0 1),
  (1, op_get 6 0 4),
  (4, op_ireturn rm_X3_sort)]
def T_X3_sort : ac_T := ac_vc k_X3_sort 1
set_option maxRecDepth 100000 in
set_option maxHeartbeats 4000000 in
theorem s_X3_sort : ∀ x ∈ k_X3_sort, ac_So M_X3_sort (fun _ _ _ => False) x.1 x.2 :=
  ac_cons (so_aload_n dX3_sort_0 rfl rfl) <|
  ac_cons (so_get (ci := 6) (f := 0) rfl in_X3 (by decide) dX3_sort_1 wd_196 rfl) <|
  ac_cons (so_ireturn rfl dX3_sort_4) <| ac_nil
theorem C_X3_sort : ac_Ct yX3_sort M_X3_sort T_X3_sort := ac_meth (by decide +kernel) rfl rfl rfl rfl s_X3_sort
-- X3_ground
abbrev rm_X3_ground : Room := { frames := 0, cells := 0, slots := 0, locals := 0 }
abbrev M_X3_ground : ac_D := (RX3, "ground", cX3_ground, 1, some (FieldType.object "TypedHall$VectorItem"), [], rm_X3_ground)
theorem tb_X3_ground : ac_tb RX3 [] := fun q h => (by cases h)
theorem dy_X3_ground : yX3_ground.cls ≠ "java/lang/invoke/MethodHandle" ∧ yX3_ground.cls ≠ "java/lang/invoke/VarHandle" ∧ (parseMethodDescriptor yX3_ground.desc).map (fun d => d.parameters.length) = some 0 := by decide +kernel
def k_X3_ground : List (Nat × ac_op) := [(0, op_aload 0 1),
  (1, op_areturn rm_X3_ground)]
def T_X3_ground : ac_T := ac_vc k_X3_ground 1
set_option maxRecDepth 100000 in
set_option maxHeartbeats 4000000 in
theorem s_X3_ground : ∀ x ∈ k_X3_ground, ac_So M_X3_ground (fun _ _ _ => False) x.1 x.2 :=
  ac_cons (so_aload_n dX3_ground_0 rfl rfl) <|
  ac_cons (so_areturn rfl (by first | exact Or.inl ⟨_, rfl⟩ | exact Or.inr ⟨_, rfl⟩) dX3_ground_1) <| ac_nil
theorem C_X3_ground : ac_Ct yX3_ground M_X3_ground T_X3_ground := ac_meth (by decide +kernel) rfl rfl rfl rfl s_X3_ground
-- X3_isLost
abbrev rm_X3_isLost : Room := { frames := 0, cells := 0, slots := 0, locals := 0 }
abbrev M_X3_isLost : ac_D := (RX3, "isLost", cX3_isLost, 1, some FieldType.boolean, [], rm_X3_isLost)
theorem tb_X3_isLost : ac_tb RX3 [] := fun q h => (by cases h)
theorem dy_X3_isLost : yX3_isLost.cls ≠ "java/lang/invoke/MethodHandle" ∧ yX3_isLost.cls ≠ "java/lang/invoke/VarHandle" ∧ (parseMethodDescriptor yX3_isLost.desc).map (fun d => d.parameters.length) = some 0 := by decide +kernel
def k_X3_isLost : List (Nat × ac_op) := [(0, op_aload 0 1),
  (1, op_get 6 1 4),
  (4, op_ifnonnull 18 7),
  (7, op_aload 0 8),
  (8, op_get 6 2 11),
  (11, op_ifnonnull 18 14),
  (14, op_push (.int 1) 15),
  (15, op_goto 19),
  (18, op_push (.int 0) 19),
  (19, op_zreturn rm_X3_isLost)]
def T_X3_isLost : ac_T := ac_vc k_X3_isLost 1
set_option maxRecDepth 100000 in
set_option maxHeartbeats 4000000 in
theorem s_X3_isLost : ∀ x ∈ k_X3_isLost, ac_So M_X3_isLost (fun _ _ _ => False) x.1 x.2 :=
  ac_cons (so_aload_n dX3_isLost_0 rfl rfl) <|
  ac_cons (so_get (ci := 6) (f := 1) rfl in_X3 (by decide) dX3_isLost_1 wd_199 rfl) <|
  ac_cons (so_ifnonnull dX3_isLost_4 (by decide) rfl) <|
  ac_cons (so_aload_n dX3_isLost_7 rfl rfl) <|
  ac_cons (so_get (ci := 6) (f := 2) rfl in_X3 (by decide) dX3_isLost_8 wd_201 rfl) <|
  ac_cons (so_ifnonnull dX3_isLost_11 (by decide) rfl) <|
  ac_cons (so_iconst dX3_isLost_14 (by decide +kernel) rfl) <|
  ac_cons (so_goto dX3_isLost_15 (by decide)) <|
  ac_cons (so_iconst dX3_isLost_18 (by decide +kernel) rfl) <|
  ac_cons (so_zreturn rfl dX3_isLost_19) <| ac_nil
theorem C_X3_isLost : ac_Ct yX3_isLost M_X3_isLost T_X3_isLost := ac_meth (by decide +kernel) rfl rfl rfl rfl s_X3_isLost
-- X3_length
abbrev rm_X3_length : Room := { frames := 0, cells := 0, slots := 0, locals := 0 }
abbrev M_X3_length : ac_D := (RX3, "length", cX3_length, 1, some FieldType.int, [], rm_X3_length)
theorem tb_X3_length : ac_tb RX3 [] := fun q h => (by cases h)
theorem dy_X3_length : yX3_length.cls ≠ "java/lang/invoke/MethodHandle" ∧ yX3_length.cls ≠ "java/lang/invoke/VarHandle" ∧ (parseMethodDescriptor yX3_length.desc).map (fun d => d.parameters.length) = some 0 := by decide +kernel
def k_X3_length : List (Nat × ac_op) := [(0, op_aload 0 1),
  (1, op_get 6 1 4),
  (4, op_ifnull 13 7),
  (7, op_aload 0 8),
  (8, op_get 6 1 11),
  (11, op_alen 2 12),
  (12, op_ireturn rm_X3_length),
  (13, op_aload 0 14),
  (14, op_get 6 2 17),
  (17, op_ifnull 28 20),
  (20, op_aload 0 21),
  (21, op_get 6 2 24),
  (24, op_alen 3 25),
  (25, op_goto 29),
  (28, op_push (.int 0) 29),
  (29, op_ireturn rm_X3_length)]
def T_X3_length : ac_T := ac_vc k_X3_length 1
set_option maxRecDepth 100000 in
set_option maxHeartbeats 4000000 in
theorem s_X3_length : ∀ x ∈ k_X3_length, ac_So M_X3_length (fun _ _ _ => False) x.1 x.2 :=
  ac_cons (so_aload_n dX3_length_0 rfl rfl) <|
  ac_cons (so_get (ci := 6) (f := 1) rfl in_X3 (by decide) dX3_length_1 wd_199 rfl) <|
  ac_cons (so_ifnull dX3_length_4 (by decide) rfl) <|
  ac_cons (so_aload_n dX3_length_7 rfl rfl) <|
  ac_cons (so_get (ci := 6) (f := 1) rfl in_X3 (by decide) dX3_length_8 wd_199 rfl) <|
  ac_cons (so_alen (t := 2) (ty := .long) (fun _ => rfl) dX3_length_11 rfl) <|
  ac_cons (so_ireturn rfl dX3_length_12) <|
  ac_cons (so_aload_n dX3_length_13 rfl rfl) <|
  ac_cons (so_get (ci := 6) (f := 2) rfl in_X3 (by decide) dX3_length_14 wd_201 rfl) <|
  ac_cons (so_ifnull dX3_length_17 (by decide) rfl) <|
  ac_cons (so_aload_n dX3_length_20 rfl rfl) <|
  ac_cons (so_get (ci := 6) (f := 2) rfl in_X3 (by decide) dX3_length_21 wd_201 rfl) <|
  ac_cons (so_alen (t := 3) (ty := .object "TypedHall$Item") (fun _ => rfl) dX3_length_24 rfl) <|
  ac_cons (so_goto dX3_length_25 (by decide)) <|
  ac_cons (so_iconst dX3_length_28 (by decide +kernel) rfl) <|
  ac_cons (so_ireturn rfl dX3_length_29) <| ac_nil
theorem C_X3_length : ac_Ct yX3_length M_X3_length T_X3_length := ac_meth (by decide +kernel) rfl rfl rfl rfl s_X3_length
-- X3_dropStorage
abbrev rm_X3_dropStorage : Room := { frames := 0, cells := 0, slots := 0, locals := 0 }
abbrev M_X3_dropStorage : ac_D := (RX3, "dropStorage", cX3_dropStorage, 1, none, [], rm_X3_dropStorage)
theorem tb_X3_dropStorage : ac_tb RX3 [] := fun q h => (by cases h)
theorem dy_X3_dropStorage : yX3_dropStorage.cls ≠ "java/lang/invoke/MethodHandle" ∧ yX3_dropStorage.cls ≠ "java/lang/invoke/VarHandle" ∧ (parseMethodDescriptor yX3_dropStorage.desc).map (fun d => d.parameters.length) = some 0 := by decide +kernel
def k_X3_dropStorage : List (Nat × ac_op) := [(0, op_aload 0 1),
  (1, op_push .null 2),
  (2, op_put 6 1 5),
  (5, op_aload 0 6),
  (6, op_push .null 7),
  (7, op_put 6 2 10),
  (10, op_return rm_X3_dropStorage)]
def T_X3_dropStorage : ac_T := ac_vc k_X3_dropStorage 1
set_option maxRecDepth 100000 in
set_option maxHeartbeats 4000000 in
theorem s_X3_dropStorage : ∀ x ∈ k_X3_dropStorage, ac_So M_X3_dropStorage (fun _ _ _ => False) x.1 x.2 :=
  ac_cons (so_aload_n dX3_dropStorage_0 rfl rfl) <|
  ac_cons (so_null dX3_dropStorage_1 rfl) <|
  ac_cons (so_put (ci := 6) (f := 1) rfl in_X3 tyX3_ok nmX3 (by decide) rfl rfl dX3_dropStorage_2 wd_199 rfl) <|
  ac_cons (so_aload_n dX3_dropStorage_5 rfl rfl) <|
  ac_cons (so_null dX3_dropStorage_6 rfl) <|
  ac_cons (so_put (ci := 6) (f := 2) rfl in_X3 tyX3_ok nmX3 (by decide) rfl rfl dX3_dropStorage_7 wd_201 rfl) <|
  ac_cons (so_return rfl dX3_dropStorage_10) <| ac_nil
theorem C_X3_dropStorage : ac_Ct yX3_dropStorage M_X3_dropStorage T_X3_dropStorage := ac_meth (by decide +kernel) rfl rfl rfl rfl s_X3_dropStorage
-- X3_firstItems
abbrev rm_X3_firstItems : Room := { frames := 0, cells := 1, slots := 24, locals := 0 }
abbrev M_X3_firstItems : ac_D := (RX3, "firstItems", cX3_firstItems, 5, some (FieldType.array (FieldType.object "TypedHall$Item")), [], rm_X3_firstItems)
theorem tb_X3_firstItems : ac_tb RX3 [] := fun q h => (by cases h)
theorem dy_X3_firstItems : yX3_firstItems.cls ≠ "java/lang/invoke/MethodHandle" ∧ yX3_firstItems.cls ≠ "java/lang/invoke/VarHandle" ∧ (parseMethodDescriptor yX3_firstItems.desc).map (fun d => d.parameters.length) = some 2 := by decide +kernel
def k_X3_firstItems : List (Nat × ac_op) := [(0, op_iload 2 1),
  (1, op_newa rm_X3_firstItems 3 4),
  (4, op_astore 3 5),
  (5, op_push (.int 0) 6),
  (6, op_istore 4 8),
  (8, op_iload 4 10),
  (10, op_iload 1 11),
  (11, op_icmp (fun x y => y ≤ x) 31 14),
  (14, op_aload 3 15),
  (15, op_iload 4 17),
  (17, op_aload 0 18),
  (18, op_get 6 2 21),
  (21, op_iload 4 23),
  (23, op_aald 3 24),
  (24, op_aast 3 25),
  (25, op_iinc 4 1 28),
  (28, op_goto 8),
  (31, op_aload 3 32),
  (32, op_areturn rm_X3_firstItems)]
def T_X3_firstItems : ac_T := ac_vc k_X3_firstItems 5
set_option maxRecDepth 100000 in
set_option maxHeartbeats 4000000 in
theorem s_X3_firstItems : ∀ x ∈ k_X3_firstItems, ac_So M_X3_firstItems (fun _ _ _ => False) x.1 x.2 :=
  ac_cons (so_iload_n dX3_firstItems_0 rfl rfl) <|
  ac_cons (so_newq dX3_firstItems_1 wd_195 rfl) <|
  ac_cons (so_astore_n dX3_firstItems_4 rfl rfl) <|
  ac_cons (so_iconst dX3_firstItems_5 (by decide +kernel) rfl) <|
  ac_cons (so_istore dX3_firstItems_6 rfl) <|
  ac_cons (so_iload dX3_firstItems_8 rfl) <|
  ac_cons (so_iload_n dX3_firstItems_10 rfl rfl) <|
  ac_cons (so_icmp_ge dX3_firstItems_11 (by decide) rfl) <|
  ac_cons (so_aload_n dX3_firstItems_14 rfl rfl) <|
  ac_cons (so_iload dX3_firstItems_15 rfl) <|
  ac_cons (so_aload_n dX3_firstItems_17 rfl rfl) <|
  ac_cons (so_get (ci := 6) (f := 2) rfl in_X3 (by decide) dX3_firstItems_18 wd_201 rfl) <|
  ac_cons (so_iload dX3_firstItems_21 rfl) <|
  ac_cons (so_aald3 dX3_firstItems_23 rfl) <|
  ac_cons (so_aast3 dX3_firstItems_24 rfl) <|
  ac_cons (so_iinc dX3_firstItems_25 (by decide +kernel) rfl) <|
  ac_cons (so_goto dX3_firstItems_28 (by decide)) <|
  ac_cons (so_aload_n dX3_firstItems_31 rfl rfl) <|
  ac_cons (so_areturn rfl (by first | exact Or.inl ⟨_, rfl⟩ | exact Or.inr ⟨_, rfl⟩) dX3_firstItems_32) <| ac_nil
theorem C_X3_firstItems : ac_Ct yX3_firstItems M_X3_firstItems T_X3_firstItems := ac_meth (by decide +kernel) rfl rfl rfl rfl s_X3_firstItems
-- X3_changeLength
abbrev rm_X3_changeLength : Room := { frames := 2, cells := 3, slots := 72, locals := 102 }
abbrev M_X3_changeLength : ac_D := (RX3, "changeLength", cX3_changeLength, 3, some FieldType.int, [], rm_X3_changeLength)
theorem tb_X3_changeLength : ac_tb RX3 [] := fun q h => (by cases h)
theorem dy_X3_changeLength : yX3_changeLength.cls ≠ "java/lang/invoke/MethodHandle" ∧ yX3_changeLength.cls ≠ "java/lang/invoke/VarHandle" ∧ (parseMethodDescriptor yX3_changeLength.desc).map (fun d => d.parameters.length) = some 1 := by decide +kernel
def k_X3_changeLength : List (Nat × ac_op) := [(0, op_aload 0 1),
  (1, op_callV rm_X3_changeLength [] 6 T_X3_length rm_X3_length 0 1 4),
  (4, op_iload 1 5),
  (5, op_min rm_X3_changeLength 8),
  (8, op_istore 2 9),
  (9, op_aload 0 10),
  (10, op_get 6 1 13),
  (13, op_ifnull 31 16),
  (16, op_aload 0 17),
  (17, op_aload 0 18),
  (18, op_get 6 1 21),
  (21, op_iload 1 22),
  (22, op_callS rm_X3_changeLength [] T_J7_copyOf_c38d5 rm_J7_copyOf_c38d5 2 22 25),
  (25, op_put 6 1 28),
  (28, op_goto 48),
  (31, op_aload 0 32),
  (32, op_get 6 2 35),
  (35, op_ifnull 48 38),
  (38, op_aload 0 39),
  (39, op_aload 0 40),
  (40, op_iload 2 41),
  (41, op_iload 1 42),
  (42, op_callV rm_X3_changeLength [] 6 T_X3_firstItems rm_X3_firstItems 2 42 45),
  (45, op_put 6 2 48),
  (48, op_iload 2 49),
  (49, op_ireturn rm_X3_changeLength)]
def T_X3_changeLength : ac_T := ac_vc k_X3_changeLength 3
set_option maxRecDepth 100000 in
set_option maxHeartbeats 4000000 in
theorem s_X3_changeLength : ∀ x ∈ k_X3_changeLength, ac_So M_X3_changeLength (fun _ _ _ => False) x.1 x.2 :=
  ac_cons (so_aload_n dX3_changeLength_0 rfl rfl) <|
  ac_cons (so_callV (N := M_X3_length) (ci := 6) C_X3_length rfl ⟨wd_429, wd_33, dy_X3_length, ⟨by decide, by decide⟩, tb_X3_changeLength⟩ rfl dX3_changeLength_1 wd_445 wd_427 wd_428 rfl) <|
  ac_cons (so_iload_n dX3_changeLength_4 rfl rfl) <|
  ac_cons (so_min dX3_changeLength_5 wd_446 ac_mw2 ⟨by decide, by decide⟩ rfl) <|
  ac_cons (so_istore_n dX3_changeLength_8 rfl rfl) <|
  ac_cons (so_aload_n dX3_changeLength_9 rfl rfl) <|
  ac_cons (so_get (ci := 6) (f := 1) rfl in_X3 (by decide) dX3_changeLength_10 wd_199 rfl) <|
  ac_cons (so_ifnull dX3_changeLength_13 (by decide) rfl) <|
  ac_cons (so_aload_n dX3_changeLength_16 rfl rfl) <|
  ac_cons (so_aload_n dX3_changeLength_17 rfl rfl) <|
  ac_cons (so_get (ci := 6) (f := 1) rfl in_X3 (by decide) dX3_changeLength_18 wd_199 rfl) <|
  ac_cons (so_iload_n dX3_changeLength_21 rfl rfl) <|
  ac_cons (so_callS (N := M_J7_copyOf_c38d5) C_J7_copyOf_c38d5 rfl ⟨wd_451, wd_43, dy_J7_copyOf_c38d5, ⟨by decide, by decide⟩, tb_X3_changeLength⟩ dX3_changeLength_22 wd_449 wd_450 rfl) <|
  ac_cons (so_put (ci := 6) (f := 1) rfl in_X3 tyX3_ok nmX3 (by decide) rfl rfl dX3_changeLength_25 wd_199 rfl) <|
  ac_cons (so_goto dX3_changeLength_28 (by decide)) <|
  ac_cons (so_aload_n dX3_changeLength_31 rfl rfl) <|
  ac_cons (so_get (ci := 6) (f := 2) rfl in_X3 (by decide) dX3_changeLength_32 wd_201 rfl) <|
  ac_cons (so_ifnull dX3_changeLength_35 (by decide) rfl) <|
  ac_cons (so_aload_n dX3_changeLength_38 rfl rfl) <|
  ac_cons (so_aload_n dX3_changeLength_39 rfl rfl) <|
  ac_cons (so_iload_n dX3_changeLength_40 rfl rfl) <|
  ac_cons (so_iload_n dX3_changeLength_41 rfl rfl) <|
  ac_cons (so_callV (N := M_X3_firstItems) (ci := 6) C_X3_firstItems rfl ⟨wd_466, wd_33, dy_X3_firstItems, ⟨by decide, by decide⟩, tb_X3_changeLength⟩ rfl dX3_changeLength_42 wd_463 wd_465 wd_4 rfl) <|
  ac_cons (so_put (ci := 6) (f := 2) rfl in_X3 tyX3_ok nmX3 (by decide) rfl rfl dX3_changeLength_45 wd_201 rfl) <|
  ac_cons (so_iload_n dX3_changeLength_48 rfl rfl) <|
  ac_cons (so_ireturn rfl dX3_changeLength_49) <| ac_nil
theorem C_X3_changeLength : ac_Ct yX3_changeLength M_X3_changeLength T_X3_changeLength := ac_meth (by decide +kernel) rfl rfl rfl rfl s_X3_changeLength
-- X4_init
abbrev rm_X4_init : Room := { frames := 2, cells := 0, slots := 0, locals := 40 }
abbrev M_X4_init : ac_D := (RX4, "<init>", cX4_init, 4, none, [], rm_X4_init)
theorem tb_X4_init : ac_tb RX4 [] := fun q h => (by cases h)
theorem dy_X4_init : yX4_init.cls ≠ "java/lang/invoke/MethodHandle" ∧ yX4_init.cls ≠ "java/lang/invoke/VarHandle" ∧ (parseMethodDescriptor yX4_init.desc).map (fun d => d.parameters.length) = some 3 := by decide +kernel
def k_X4_init : List (Nat × ac_op) := [(0, op_aload 0 1),
  (1, op_callI rm_X4_init [] T_X1_init rm_X1_init 0 1 4),
  (4, op_aload 0 5),
  (5, op_aload 1 6),
  (6, op_put 7 0 9),
  (9, op_aload 0 10),
  (10, op_iload 2 11),
  (11, op_put 7 1 14),
  (14, op_aload 0 15),
  (15, op_iload 3 16),
  (16, op_put 7 2 19),
  (19, op_return rm_X4_init)]
def T_X4_init : ac_T := ac_vc k_X4_init 4
set_option maxRecDepth 100000 in
set_option maxHeartbeats 4000000 in
theorem s_X4_init : ∀ x ∈ k_X4_init, ac_So M_X4_init (fun _ _ _ => False) x.1 x.2 :=
  ac_cons (so_aload_n dX4_init_0 rfl rfl) <|
  ac_cons (so_callIN (N := M_X1_init) C_X1_init rfl rfl ⟨wd_193, wd_32, dy_X1_init, ⟨by decide, by decide⟩, tb_X4_init⟩ dX4_init_1 wd_364 wd_192 rfl rfl) <|
  ac_cons (so_aload_n dX4_init_4 rfl rfl) <|
  ac_cons (so_aload_n dX4_init_5 rfl rfl) <|
  ac_cons (so_putF (ci := 7) (f := 0) rfl in_X4 tyX4_ok nmX4 (by decide) rfl rfl rfl rfl dX4_init_6 wd_365 rfl) <|
  ac_cons (so_aload_n dX4_init_9 rfl rfl) <|
  ac_cons (so_iload_n dX4_init_10 rfl rfl) <|
  ac_cons (so_putF (ci := 7) (f := 1) rfl in_X4 tyX4_ok nmX4 (by decide) rfl rfl rfl rfl dX4_init_11 wd_366 rfl) <|
  ac_cons (so_aload_n dX4_init_14 rfl rfl) <|
  ac_cons (so_iload_n dX4_init_15 rfl rfl) <|
  ac_cons (so_putF (ci := 7) (f := 2) rfl in_X4 tyX4_ok nmX4 (by decide) rfl rfl rfl rfl dX4_init_16 wd_367 rfl) <|
  ac_cons (so_return rfl dX4_init_19) <| ac_nil
theorem C_X4_init : ac_Ct yX4_init M_X4_init T_X4_init := ac_meth (by decide +kernel) rfl rfl rfl rfl s_X4_init
-- X4_sort
abbrev rm_X4_sort : Room := { frames := 0, cells := 0, slots := 0, locals := 0 }
abbrev M_X4_sort : ac_D := (RX4, "sort", cX4_sort, 1, some FieldType.int, [], rm_X4_sort)
theorem tb_X4_sort : ac_tb RX4 [] := fun q h => (by cases h)
theorem dy_X4_sort : yX4_sort.cls ≠ "java/lang/invoke/MethodHandle" ∧ yX4_sort.cls ≠ "java/lang/invoke/VarHandle" ∧ (parseMethodDescriptor yX4_sort.desc).map (fun d => d.parameters.length) = some 0 := by decide +kernel
def k_X4_sort : List (Nat × ac_op) := [(0, op_aload 0 1),
  (1, op_get 7 0 4),
  (4, op_get 6 0 7),
  (7, op_ireturn rm_X4_sort)]
def T_X4_sort : ac_T := ac_vc k_X4_sort 1
set_option maxRecDepth 100000 in
set_option maxHeartbeats 4000000 in
theorem s_X4_sort : ∀ x ∈ k_X4_sort, ac_So M_X4_sort (fun _ _ _ => False) x.1 x.2 :=
  ac_cons (so_aload_n dX4_sort_0 rfl rfl) <|
  ac_cons (so_get (ci := 7) (f := 0) rfl in_X4 (by decide) dX4_sort_1 wd_365 rfl) <|
  ac_cons (so_getN (ci := 6) (f := 0) rfl in_X3 (by decide) dX4_sort_4 wd_197 rfl) <|
  ac_cons (so_ireturn rfl dX4_sort_7) <| ac_nil
theorem C_X4_sort : ac_Ct yX4_sort M_X4_sort T_X4_sort := ac_meth (by decide +kernel) rfl rfl rfl rfl s_X4_sort
-- X4_ground
abbrev rm_X4_ground : Room := { frames := 0, cells := 0, slots := 0, locals := 0 }
abbrev M_X4_ground : ac_D := (RX4, "ground", cX4_ground, 1, some (FieldType.object "TypedHall$VectorItem"), [], rm_X4_ground)
theorem tb_X4_ground : ac_tb RX4 [] := fun q h => (by cases h)
theorem dy_X4_ground : yX4_ground.cls ≠ "java/lang/invoke/MethodHandle" ∧ yX4_ground.cls ≠ "java/lang/invoke/VarHandle" ∧ (parseMethodDescriptor yX4_ground.desc).map (fun d => d.parameters.length) = some 0 := by decide +kernel
def k_X4_ground : List (Nat × ac_op) := [(0, op_aload 0 1),
  (1, op_get 7 0 4),
  (4, op_areturn rm_X4_ground)]
def T_X4_ground : ac_T := ac_vc k_X4_ground 1
set_option maxRecDepth 100000 in
set_option maxHeartbeats 4000000 in
theorem s_X4_ground : ∀ x ∈ k_X4_ground, ac_So M_X4_ground (fun _ _ _ => False) x.1 x.2 :=
  ac_cons (so_aload_n dX4_ground_0 rfl rfl) <|
  ac_cons (so_get (ci := 7) (f := 0) rfl in_X4 (by decide) dX4_ground_1 wd_365 rfl) <|
  ac_cons (so_areturn rfl (by first | exact Or.inl ⟨_, rfl⟩ | exact Or.inr ⟨_, rfl⟩) dX4_ground_4) <| ac_nil
theorem C_X4_ground : ac_Ct yX4_ground M_X4_ground T_X4_ground := ac_meth (by decide +kernel) rfl rfl rfl rfl s_X4_ground
-- X4_shift
abbrev rm_X4_shift : Room := { frames := 0, cells := 0, slots := 0, locals := 0 }
abbrev M_X4_shift : ac_D := (RX4, "shift", cX4_shift, 1, some FieldType.int, [], rm_X4_shift)
theorem tb_X4_shift : ac_tb RX4 [] := fun q h => (by cases h)
theorem dy_X4_shift : yX4_shift.cls ≠ "java/lang/invoke/MethodHandle" ∧ yX4_shift.cls ≠ "java/lang/invoke/VarHandle" ∧ (parseMethodDescriptor yX4_shift.desc).map (fun d => d.parameters.length) = some 0 := by decide +kernel
def k_X4_shift : List (Nat × ac_op) := [(0, op_aload 0 1),
  (1, op_get 7 1 4),
  (4, op_ireturn rm_X4_shift)]
def T_X4_shift : ac_T := ac_vc k_X4_shift 1
set_option maxRecDepth 100000 in
set_option maxHeartbeats 4000000 in
theorem s_X4_shift : ∀ x ∈ k_X4_shift, ac_So M_X4_shift (fun _ _ _ => False) x.1 x.2 :=
  ac_cons (so_aload_n dX4_shift_0 rfl rfl) <|
  ac_cons (so_get (ci := 7) (f := 1) rfl in_X4 (by decide) dX4_shift_1 wd_366 rfl) <|
  ac_cons (so_ireturn rfl dX4_shift_4) <| ac_nil
theorem C_X4_shift : ac_Ct yX4_shift M_X4_shift T_X4_shift := ac_meth (by decide +kernel) rfl rfl rfl rfl s_X4_shift
-- X4_windows
abbrev rm_X4_windows : Room := { frames := 0, cells := 0, slots := 0, locals := 0 }
abbrev M_X4_windows : ac_D := (RX4, "windows", cX4_windows, 1, some FieldType.int, [], rm_X4_windows)
theorem tb_X4_windows : ac_tb RX4 [] := fun q h => (by cases h)
theorem dy_X4_windows : yX4_windows.cls ≠ "java/lang/invoke/MethodHandle" ∧ yX4_windows.cls ≠ "java/lang/invoke/VarHandle" ∧ (parseMethodDescriptor yX4_windows.desc).map (fun d => d.parameters.length) = some 0 := by decide +kernel
def k_X4_windows : List (Nat × ac_op) := [(0, op_aload 0 1),
  (1, op_get 7 2 4),
  (4, op_ireturn rm_X4_windows)]
def T_X4_windows : ac_T := ac_vc k_X4_windows 1
set_option maxRecDepth 100000 in
set_option maxHeartbeats 4000000 in
theorem s_X4_windows : ∀ x ∈ k_X4_windows, ac_So M_X4_windows (fun _ _ _ => False) x.1 x.2 :=
  ac_cons (so_aload_n dX4_windows_0 rfl rfl) <|
  ac_cons (so_get (ci := 7) (f := 2) rfl in_X4 (by decide) dX4_windows_1 wd_367 rfl) <|
  ac_cons (so_ireturn rfl dX4_windows_4) <| ac_nil
theorem C_X4_windows : ac_Ct yX4_windows M_X4_windows T_X4_windows := ac_meth (by decide +kernel) rfl rfl rfl rfl s_X4_windows
