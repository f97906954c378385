/-! ===== the methods: data, code, contract ===== -/
-- X5_init
abbrev rm_X5_init : Room := { frames := 1, cells := 1, slots := 8, locals := 20 }
abbrev M_X5_init : ac_D := (RX5, "<init>", cX5_init, 1, none, [], rm_X5_init)
theorem tb_X5_init : ac_tb RX5 [] := fun q h => (by cases h)
theorem dy_X5_init : yX5_init.cls ≠ "java/lang/invoke/MethodHandle" ∧ yX5_init.cls ≠ "java/lang/invoke/VarHandle" ∧ (parseMethodDescriptor yX5_init.desc).map (fun d => d.parameters.length) = some 0 := by decide +kernel
def k_X5_init : List (Nat × ac_op) := [(0, op_aload 0 1),
  (1, op_objinit 4),
  (4, op_aload 0 5),
  (5, op_push (.int 8) 7),
  (7, op_newa rm_X5_init 3 10),
  (10, op_put 8 0 13),
  (13, op_aload 0 14),
  (14, op_push (.int 0) 15),
  (15, op_put 8 1 18),
  (18, op_return rm_X5_init)]
def T_X5_init : ac_T := ac_vc k_X5_init 1
set_option maxRecDepth 100000 in
set_option maxHeartbeats 4000000 in
theorem s_X5_init : ∀ x ∈ k_X5_init, ac_So M_X5_init (fun _ _ _ => False) x.1 x.2 :=
  ac_cons (so_aload_n dX5_init_0 rfl rfl) <|
  ac_cons (so_objinit dX5_init_1 wd_51 wd_52 wd_53 ⟨by decide, by decide⟩ rfl) <|
  ac_cons (so_aload_n dX5_init_4 rfl rfl) <|
  ac_cons (so_bipush dX5_init_5 (by decide +kernel) rfl) <|
  ac_cons (so_newq dX5_init_7 wd_54 rfl) <|
  ac_cons (so_putF (ci := 8) (f := 0) rfl in_X5 tyX5_ok nmX5 (by decide) rfl rfl rfl rfl dX5_init_10 wd_56 rfl) <|
  ac_cons (so_aload_n dX5_init_13 rfl rfl) <|
  ac_cons (so_iconst dX5_init_14 (by decide +kernel) rfl) <|
  ac_cons (so_put (ci := 8) (f := 1) rfl in_X5 tyX5_ok nmX5 (by decide) rfl rfl dX5_init_15 wd_57 rfl) <|
  ac_cons (so_return rfl dX5_init_18) <| ac_nil
theorem C_X5_init : ac_Ct yX5_init M_X5_init T_X5_init := ac_meth (by decide +kernel) rfl rfl rfl rfl s_X5_init
-- X5_requireArgument
abbrev rm_X5_requireArgument : Room := { frames := 6, cells := 1, slots := 6, locals := 81 }
abbrev M_X5_requireArgument : ac_D := (RX5, "requireArgument", cX5_requireArgument, 1, none, [], rm_X5_requireArgument)
theorem tb_X5_requireArgument : ac_tb RX5 [] := fun q h => (by cases h)
theorem dy_X5_requireArgument : yX5_requireArgument.cls ≠ "java/lang/invoke/MethodHandle" ∧ yX5_requireArgument.cls ≠ "java/lang/invoke/VarHandle" ∧ (parseMethodDescriptor yX5_requireArgument.desc).map (fun d => d.parameters.length) = some 1 := by decide +kernel
def k_X5_requireArgument : List (Nat × ac_op) := [(0, op_iload 0 1),
  (1, op_if (fun x => ¬ x = 0) 12 4),
  (4, op_throw rm_X5_requireArgument 0),
  (12, op_return rm_X5_requireArgument)]
def T_X5_requireArgument : ac_T := ac_vc k_X5_requireArgument 1
set_option maxRecDepth 100000 in
set_option maxHeartbeats 4000000 in
theorem s_X5_requireArgument : ∀ x ∈ k_X5_requireArgument, ac_So M_X5_requireArgument (fun _ _ _ => False) x.1 x.2 :=
  ac_cons (so_iload_n dX5_requireArgument_0 rfl rfl) <|
  ac_cons (so_if_ne dX5_requireArgument_1 (by decide) rfl) <|
  ac_cons (so_throw (x := 0) (names := ["java/lang/RuntimeException", "java/lang/Exception"]) rfl (by decide +kernel) (by decide +kernel) (by decide +kernel) dX5_requireArgument_4 dX5_requireArgument_7 dX5_requireArgument_8 dX5_requireArgument_11 ⟨by decide, by decide⟩) <|
  ac_cons (so_return rfl dX5_requireArgument_12) <| ac_nil
theorem C_X5_requireArgument : ac_Ct yX5_requireArgument M_X5_requireArgument T_X5_requireArgument := ac_meth (by decide +kernel) rfl rfl rfl rfl s_X5_requireArgument
-- X5_requireRegister
abbrev rm_X5_requireRegister : Room := { frames := 7, cells := 1, slots := 6, locals := 101 }
abbrev M_X5_requireRegister : ac_D := (RX5, "requireRegister", cX5_requireRegister, 1, none, [], rm_X5_requireRegister)
theorem tb_X5_requireRegister : ac_tb RX5 [] := fun q h => (by cases h)
theorem dy_X5_requireRegister : yX5_requireRegister.cls ≠ "java/lang/invoke/MethodHandle" ∧ yX5_requireRegister.cls ≠ "java/lang/invoke/VarHandle" ∧ (parseMethodDescriptor yX5_requireRegister.desc).map (fun d => d.parameters.length) = some 1 := by decide +kernel
def k_X5_requireRegister : List (Nat × ac_op) := [(0, op_iload 0 1),
  (1, op_if (fun x => x < 0) 14 4),
  (4, op_iload 0 5),
  (5, op_push (.int 8) 7),
  (7, op_icmp (fun x y => y ≤ x) 14 10),
  (10, op_push (.int 1) 11),
  (11, op_goto 15),
  (14, op_push (.int 0) 15),
  (15, op_callS rm_X5_requireRegister [] T_X5_requireArgument rm_X5_requireArgument 1 15 18),
  (18, op_return rm_X5_requireRegister)]
def T_X5_requireRegister : ac_T := ac_vc k_X5_requireRegister 1
set_option maxRecDepth 100000 in
set_option maxHeartbeats 4000000 in
theorem s_X5_requireRegister : ∀ x ∈ k_X5_requireRegister, ac_So M_X5_requireRegister (fun _ _ _ => False) x.1 x.2 :=
  ac_cons (so_iload_n dX5_requireRegister_0 rfl rfl) <|
  ac_cons (so_if_lt dX5_requireRegister_1 (by decide) rfl) <|
  ac_cons (so_iload_n dX5_requireRegister_4 rfl rfl) <|
  ac_cons (so_bipush dX5_requireRegister_5 (by decide +kernel) rfl) <|
  ac_cons (so_icmp_ge dX5_requireRegister_7 (by decide) rfl) <|
  ac_cons (so_iconst dX5_requireRegister_10 (by decide +kernel) rfl) <|
  ac_cons (so_goto dX5_requireRegister_11 (by decide)) <|
  ac_cons (so_iconst dX5_requireRegister_14 (by decide +kernel) rfl) <|
  ac_cons (so_callS (N := M_X5_requireArgument) C_X5_requireArgument rfl ⟨wd_161, wd_24, dy_X5_requireArgument, ⟨by decide, by decide⟩, tb_X5_requireRegister⟩ dX5_requireRegister_15 wd_159 wd_160 rfl) <|
  ac_cons (so_return rfl dX5_requireRegister_18) <| ac_nil
theorem C_X5_requireRegister : ac_Ct yX5_requireRegister M_X5_requireRegister T_X5_requireRegister := ac_meth (by decide +kernel) rfl rfl rfl rfl s_X5_requireRegister
-- X5_requireSize
abbrev rm_X5_requireSize : Room := { frames := 7, cells := 3, slots := 222, locals := 10240 }
abbrev M_X5_requireSize : ac_D := (RX5, "requireSize", cX5_requireSize, 2, none, [], rm_X5_requireSize)
theorem tb_X5_requireSize : ac_tb RX5 [] := fun q h => (by cases h)
theorem dy_X5_requireSize : yX5_requireSize.cls ≠ "java/lang/invoke/MethodHandle" ∧ yX5_requireSize.cls ≠ "java/lang/invoke/VarHandle" ∧ (parseMethodDescriptor yX5_requireSize.desc).map (fun d => d.parameters.length) = some 1 := by decide +kernel
def k_X5_requireSize : List (Nat × ac_op) := [(0, op_iload 0 1),
  (1, op_if (fun x => 0 ≤ x) 8 4),
  (4, op_iload 0 5),
  (5, op_nas rm_X5_requireSize),
  (8, op_return rm_X5_requireSize)]
def T_X5_requireSize : ac_T := ac_vc k_X5_requireSize 2
set_option maxRecDepth 100000 in
set_option maxHeartbeats 4000000 in
theorem s_X5_requireSize : ∀ x ∈ k_X5_requireSize, ac_So M_X5_requireSize (fun _ _ _ => False) x.1 x.2 :=
  ac_cons (so_iload_n dX5_requireSize_0 rfl rfl) <|
  ac_cons (so_if_ge dX5_requireSize_1 (by decide) rfl) <|
  ac_cons (so_iload_n dX5_requireSize_4 rfl rfl) <|
  ac_cons (so_nas rfl at_M4 dX5_requireSize_5 ⟨by decide, by decide⟩) <|
  ac_cons (so_return rfl dX5_requireSize_8) <| ac_nil
theorem C_X5_requireSize : ac_Ct yX5_requireSize M_X5_requireSize T_X5_requireSize := ac_meth (by decide +kernel) rfl rfl rfl rfl s_X5_requireSize
-- X5_holdNew
abbrev rm_X5_holdNew : Room := { frames := 0, cells := 0, slots := 0, locals := 0 }
abbrev M_X5_holdNew : ac_D := (RX5, "holdNew", cX5_holdNew, 3, some FieldType.int, [], rm_X5_holdNew)
theorem tb_X5_holdNew : ac_tb RX5 [] := fun q h => (by cases h)
theorem dy_X5_holdNew : yX5_holdNew.cls ≠ "java/lang/invoke/MethodHandle" ∧ yX5_holdNew.cls ≠ "java/lang/invoke/VarHandle" ∧ (parseMethodDescriptor yX5_holdNew.desc).map (fun d => d.parameters.length) = some 2 := by decide +kernel
def k_X5_holdNew : List (Nat × ac_op) := [(0, op_aload 0 1),
  (1, op_get 8 0 4),
  (4, op_iload 1 5),
  (5, op_aload 2 6),
  (6, op_aast 3 7),
  (7, op_aload 0 8),
  (8, op_dup 9),
  (9, op_get 8 1 12),
  (12, op_push (.int 1) 13),
  (13, op_ii (fun x y => x + y) 14),
  (14, op_put 8 1 17),
  (17, op_aload 0 18),
  (18, op_get 8 1 21),
  (21, op_ireturn rm_X5_holdNew)]
def T_X5_holdNew : ac_T := ac_vc k_X5_holdNew 3
set_option maxRecDepth 100000 in
set_option maxHeartbeats 4000000 in
theorem s_X5_holdNew : ∀ x ∈ k_X5_holdNew, ac_So M_X5_holdNew (fun _ _ _ => False) x.1 x.2 :=
  ac_cons (so_aload_n dX5_holdNew_0 rfl rfl) <|
  ac_cons (so_get (ci := 8) (f := 0) rfl in_X5 (by decide) dX5_holdNew_1 wd_56 rfl) <|
  ac_cons (so_iload_n dX5_holdNew_4 rfl rfl) <|
  ac_cons (so_aload_n dX5_holdNew_5 rfl rfl) <|
  ac_cons (so_aast3 dX5_holdNew_6 rfl) <|
  ac_cons (so_aload_n dX5_holdNew_7 rfl rfl) <|
  ac_cons (so_dup dX5_holdNew_8 rfl) <|
  ac_cons (so_get (ci := 8) (f := 1) rfl in_X5 (by decide) dX5_holdNew_9 wd_57 rfl) <|
  ac_cons (so_iconst dX5_holdNew_12 (by decide +kernel) rfl) <|
  ac_cons (so_iadd dX5_holdNew_13 rfl) <|
  ac_cons (so_put (ci := 8) (f := 1) rfl in_X5 tyX5_ok nmX5 (by decide) rfl rfl dX5_holdNew_14 wd_57 rfl) <|
  ac_cons (so_aload_n dX5_holdNew_17 rfl rfl) <|
  ac_cons (so_get (ci := 8) (f := 1) rfl in_X5 (by decide) dX5_holdNew_18 wd_57 rfl) <|
  ac_cons (so_ireturn rfl dX5_holdNew_21) <| ac_nil
theorem C_X5_holdNew : ac_Ct yX5_holdNew M_X5_holdNew T_X5_holdNew := ac_meth (by decide +kernel) rfl rfl rfl rfl s_X5_holdNew
-- X5_make
abbrev rm_X5_make : Room := { frames := 8, cells := 9, slots := 291, locals := 10261 }
abbrev M_X5_make : ac_D := (RX5, "make", cX5_make, 4, some FieldType.int, [], rm_X5_make)
theorem tb_X5_make : ac_tb RX5 [] := fun q h => (by cases h)
theorem dy_X5_make : yX5_make.cls ≠ "java/lang/invoke/MethodHandle" ∧ yX5_make.cls ≠ "java/lang/invoke/VarHandle" ∧ (parseMethodDescriptor yX5_make.desc).map (fun d => d.parameters.length) = some 3 := by decide +kernel
def k_X5_make : List (Nat × ac_op) := [(0, op_iload 1 1),
  (1, op_callS rm_X5_make [] T_X5_requireRegister rm_X5_requireRegister 1 1 4),
  (4, op_iload 2 5),
  (5, op_if (fun x => x < 0) 18 8),
  (8, op_iload 2 9),
  (9, op_push (.int 8) 11),
  (11, op_icmp (fun x y => y < x) 18 14),
  (14, op_push (.int 1) 15),
  (15, op_goto 19),
  (18, op_push (.int 0) 19),
  (19, op_callS rm_X5_make [] T_X5_requireArgument rm_X5_requireArgument 1 19 22),
  (22, op_iload 3 23),
  (23, op_push (.int 24) 25),
  (25, op_icmp (fun x y => y < x) 32 28),
  (28, op_push (.int 1) 29),
  (29, op_goto 33),
  (32, op_push (.int 0) 33),
  (33, op_callS rm_X5_make [] T_X5_requireArgument rm_X5_requireArgument 1 33 36),
  (36, op_iload 3 37),
  (37, op_callS rm_X5_make [] T_X5_requireSize rm_X5_requireSize 1 37 40),
  (40, op_aload 0 41),
  (41, op_iload 1 42),
  (42, op_new rm_X5_make 6 45),
  (45, op_dup 46),
  (46, op_iload 2 47),
  (47, op_iload 3 48),
  (48, op_callI rm_X5_make [] T_X3_init rm_X3_init 2 48 51),
  (51, op_callV rm_X5_make [] 8 T_X5_holdNew rm_X5_holdNew 2 51 54),
  (54, op_ireturn rm_X5_make)]
def T_X5_make : ac_T := ac_vc k_X5_make 4
set_option maxRecDepth 100000 in
set_option maxHeartbeats 4000000 in
theorem s_X5_make : ∀ x ∈ k_X5_make, ac_So M_X5_make (fun _ _ _ => False) x.1 x.2 :=
  ac_cons (so_iload_n dX5_make_0 rfl rfl) <|
  ac_cons (so_callS (N := M_X5_requireRegister) C_X5_requireRegister rfl ⟨wd_158, wd_24, dy_X5_requireRegister, ⟨by decide, by decide⟩, tb_X5_make⟩ dX5_make_1 wd_156 wd_157 rfl) <|
  ac_cons (so_iload_n dX5_make_4 rfl rfl) <|
  ac_cons (so_if_lt dX5_make_5 (by decide) rfl) <|
  ac_cons (so_iload_n dX5_make_8 rfl rfl) <|
  ac_cons (so_bipush dX5_make_9 (by decide +kernel) rfl) <|
  ac_cons (so_icmp_gt dX5_make_11 (by decide) rfl) <|
  ac_cons (so_iconst dX5_make_14 (by decide +kernel) rfl) <|
  ac_cons (so_goto dX5_make_15 (by decide)) <|
  ac_cons (so_iconst dX5_make_18 (by decide +kernel) rfl) <|
  ac_cons (so_callS (N := M_X5_requireArgument) C_X5_requireArgument rfl ⟨wd_161, wd_24, dy_X5_requireArgument, ⟨by decide, by decide⟩, tb_X5_make⟩ dX5_make_19 wd_159 wd_160 rfl) <|
  ac_cons (so_iload_n dX5_make_22 rfl rfl) <|
  ac_cons (so_bipush dX5_make_23 (by decide +kernel) rfl) <|
  ac_cons (so_icmp_gt dX5_make_25 (by decide) rfl) <|
  ac_cons (so_iconst dX5_make_28 (by decide +kernel) rfl) <|
  ac_cons (so_goto dX5_make_29 (by decide)) <|
  ac_cons (so_iconst dX5_make_32 (by decide +kernel) rfl) <|
  ac_cons (so_callS (N := M_X5_requireArgument) C_X5_requireArgument rfl ⟨wd_161, wd_24, dy_X5_requireArgument, ⟨by decide, by decide⟩, tb_X5_make⟩ dX5_make_33 wd_159 wd_160 rfl) <|
  ac_cons (so_iload_n dX5_make_36 rfl rfl) <|
  ac_cons (so_callS (N := M_X5_requireSize) C_X5_requireSize rfl ⟨wd_185, wd_24, dy_X5_requireSize, ⟨by decide, by decide⟩, tb_X5_make⟩ dX5_make_37 wd_183 wd_184 rfl) <|
  ac_cons (so_aload_n dX5_make_40 rfl rfl) <|
  ac_cons (so_iload_n dX5_make_41 rfl rfl) <|
  ac_cons (so_new (ci := 6) (ty := tyX3) rfl in_X3 tyX3_ok df_X3 rfl dX5_make_42 wd_186 wd_187 wd_33 rfl) <|
  ac_cons (so_dup dX5_make_45 rfl) <|
  ac_cons (so_iload_n dX5_make_46 rfl rfl) <|
  ac_cons (so_iload_n dX5_make_47 rfl rfl) <|
  ac_cons (so_callI (N := M_X3_init) C_X3_init rfl rfl ⟨wd_190, wd_33, dy_X3_init, ⟨by decide, by decide⟩, tb_X5_make⟩ dX5_make_48 wd_188 wd_189 rfl rfl) <|
  ac_cons (so_callV (N := M_X5_holdNew) (ci := 8) C_X5_holdNew rfl ⟨wd_215, wd_24, dy_X5_holdNew, ⟨by decide, by decide⟩, tb_X5_make⟩ rfl dX5_make_51 wd_212 wd_214 wd_2 rfl) <|
  ac_cons (so_ireturn rfl dX5_make_54) <| ac_nil
theorem C_X5_make : ac_Ct yX5_make M_X5_make T_X5_make := ac_meth (by decide +kernel) rfl rfl rfl rfl s_X5_make
-- X5_grid
abbrev rm_X5_grid : Room := { frames := 8, cells := 17, slots := 493, locals := 10261 }
abbrev M_X5_grid : ac_D := (RX5, "grid", cX5_grid, 4, some FieldType.int, [], rm_X5_grid)
theorem tb_X5_grid : ac_tb RX5 [] := fun q h => (by cases h)
theorem dy_X5_grid : yX5_grid.cls ≠ "java/lang/invoke/MethodHandle" ∧ yX5_grid.cls ≠ "java/lang/invoke/VarHandle" ∧ (parseMethodDescriptor yX5_grid.desc).map (fun d => d.parameters.length) = some 3 := by decide +kernel
def k_X5_grid : List (Nat × ac_op) := [(0, op_iload 1 1),
  (1, op_callS rm_X5_grid [] T_X5_requireRegister rm_X5_requireRegister 1 1 4),
  (4, op_iload 2 5),
  (5, op_push (.int 6) 7),
  (7, op_icmp (fun x y => y < x) 14 10),
  (10, op_push (.int 1) 11),
  (11, op_goto 15),
  (14, op_push (.int 0) 15),
  (15, op_callS rm_X5_grid [] T_X5_requireArgument rm_X5_requireArgument 1 15 18),
  (18, op_iload 3 19),
  (19, op_push (.int 4) 20),
  (20, op_icmp (fun x y => y < x) 27 23),
  (23, op_push (.int 1) 24),
  (24, op_goto 28),
  (27, op_push (.int 0) 28),
  (28, op_callS rm_X5_grid [] T_X5_requireArgument rm_X5_requireArgument 1 28 31),
  (31, op_iload 2 32),
  (32, op_callS rm_X5_grid [] T_X5_requireSize rm_X5_requireSize 1 32 35),
  (35, op_iload 3 36),
  (36, op_callS rm_X5_grid [] T_X5_requireSize rm_X5_requireSize 1 36 39),
  (39, op_aload 0 40),
  (40, op_iload 1 41),
  (41, op_new rm_X5_grid 4 44),
  (44, op_dup 45),
  (45, op_iload 2 46),
  (46, op_iload 3 47),
  (47, op_callI rm_X5_grid [] T_X0_init rm_X0_init 2 47 50),
  (50, op_callV rm_X5_grid [] 8 T_X5_holdNew rm_X5_holdNew 2 50 53),
  (53, op_ireturn rm_X5_grid)]
def T_X5_grid : ac_T := ac_vc k_X5_grid 4
set_option maxRecDepth 100000 in
set_option maxHeartbeats 4000000 in
theorem s_X5_grid : ∀ x ∈ k_X5_grid, ac_So M_X5_grid (fun _ _ _ => False) x.1 x.2 :=
  ac_cons (so_iload_n dX5_grid_0 rfl rfl) <|
  ac_cons (so_callS (N := M_X5_requireRegister) C_X5_requireRegister rfl ⟨wd_158, wd_24, dy_X5_requireRegister, ⟨by decide, by decide⟩, tb_X5_grid⟩ dX5_grid_1 wd_156 wd_157 rfl) <|
  ac_cons (so_iload_n dX5_grid_4 rfl rfl) <|
  ac_cons (so_bipush dX5_grid_5 (by decide +kernel) rfl) <|
  ac_cons (so_icmp_gt dX5_grid_7 (by decide) rfl) <|
  ac_cons (so_iconst dX5_grid_10 (by decide +kernel) rfl) <|
  ac_cons (so_goto dX5_grid_11 (by decide)) <|
  ac_cons (so_iconst dX5_grid_14 (by decide +kernel) rfl) <|
  ac_cons (so_callS (N := M_X5_requireArgument) C_X5_requireArgument rfl ⟨wd_161, wd_24, dy_X5_requireArgument, ⟨by decide, by decide⟩, tb_X5_grid⟩ dX5_grid_15 wd_159 wd_160 rfl) <|
  ac_cons (so_iload_n dX5_grid_18 rfl rfl) <|
  ac_cons (so_iconst dX5_grid_19 (by decide +kernel) rfl) <|
  ac_cons (so_icmp_gt dX5_grid_20 (by decide) rfl) <|
  ac_cons (so_iconst dX5_grid_23 (by decide +kernel) rfl) <|
  ac_cons (so_goto dX5_grid_24 (by decide)) <|
  ac_cons (so_iconst dX5_grid_27 (by decide +kernel) rfl) <|
  ac_cons (so_callS (N := M_X5_requireArgument) C_X5_requireArgument rfl ⟨wd_161, wd_24, dy_X5_requireArgument, ⟨by decide, by decide⟩, tb_X5_grid⟩ dX5_grid_28 wd_159 wd_160 rfl) <|
  ac_cons (so_iload_n dX5_grid_31 rfl rfl) <|
  ac_cons (so_callS (N := M_X5_requireSize) C_X5_requireSize rfl ⟨wd_185, wd_24, dy_X5_requireSize, ⟨by decide, by decide⟩, tb_X5_grid⟩ dX5_grid_32 wd_183 wd_184 rfl) <|
  ac_cons (so_iload_n dX5_grid_35 rfl rfl) <|
  ac_cons (so_callS (N := M_X5_requireSize) C_X5_requireSize rfl ⟨wd_185, wd_24, dy_X5_requireSize, ⟨by decide, by decide⟩, tb_X5_grid⟩ dX5_grid_36 wd_183 wd_184 rfl) <|
  ac_cons (so_aload_n dX5_grid_39 rfl rfl) <|
  ac_cons (so_iload_n dX5_grid_40 rfl rfl) <|
  ac_cons (so_new (ci := 4) (ty := tyX0) rfl in_X0 tyX0_ok df_X0 rfl dX5_grid_41 wd_223 wd_224 wd_34 rfl) <|
  ac_cons (so_dup dX5_grid_44 rfl) <|
  ac_cons (so_iload_n dX5_grid_45 rfl rfl) <|
  ac_cons (so_iload_n dX5_grid_46 rfl rfl) <|
  ac_cons (so_callI (N := M_X0_init) C_X0_init rfl rfl ⟨wd_227, wd_34, dy_X0_init, ⟨by decide, by decide⟩, tb_X5_grid⟩ dX5_grid_47 wd_225 wd_226 rfl rfl) <|
  ac_cons (so_callV (N := M_X5_holdNew) (ci := 8) C_X5_holdNew rfl ⟨wd_215, wd_24, dy_X5_holdNew, ⟨by decide, by decide⟩, tb_X5_grid⟩ rfl dX5_grid_50 wd_212 wd_214 wd_2 rfl) <|
  ac_cons (so_ireturn rfl dX5_grid_53) <| ac_nil
theorem C_X5_grid : ac_Ct yX5_grid M_X5_grid T_X5_grid := ac_meth (by decide +kernel) rfl rfl rfl rfl s_X5_grid
-- X5_record
abbrev rm_X5_record : Room := { frames := 8, cells := 2, slots := 8, locals := 121 }
abbrev M_X5_record : ac_D := (RX5, "record", cX5_record, 2, some FieldType.int, [], rm_X5_record)
theorem tb_X5_record : ac_tb RX5 [] := fun q h => (by cases h)
theorem dy_X5_record : yX5_record.cls ≠ "java/lang/invoke/MethodHandle" ∧ yX5_record.cls ≠ "java/lang/invoke/VarHandle" ∧ (parseMethodDescriptor yX5_record.desc).map (fun d => d.parameters.length) = some 1 := by decide +kernel
def k_X5_record : List (Nat × ac_op) := [(0, op_iload 1 1),
  (1, op_callS rm_X5_record [] T_X5_requireRegister rm_X5_requireRegister 1 1 4),
  (4, op_aload 0 5),
  (5, op_iload 1 6),
  (6, op_new rm_X5_record 5 9),
  (9, op_dup 10),
  (10, op_callI rm_X5_record [] T_X2_init rm_X2_init 0 10 13),
  (13, op_callV rm_X5_record [] 8 T_X5_holdNew rm_X5_holdNew 2 13 16),
  (16, op_ireturn rm_X5_record)]
def T_X5_record : ac_T := ac_vc k_X5_record 2
set_option maxRecDepth 100000 in
set_option maxHeartbeats 4000000 in
theorem s_X5_record : ∀ x ∈ k_X5_record, ac_So M_X5_record (fun _ _ _ => False) x.1 x.2 :=
  ac_cons (so_iload_n dX5_record_0 rfl rfl) <|
  ac_cons (so_callS (N := M_X5_requireRegister) C_X5_requireRegister rfl ⟨wd_158, wd_24, dy_X5_requireRegister, ⟨by decide, by decide⟩, tb_X5_record⟩ dX5_record_1 wd_156 wd_157 rfl) <|
  ac_cons (so_aload_n dX5_record_4 rfl rfl) <|
  ac_cons (so_iload_n dX5_record_5 rfl rfl) <|
  ac_cons (so_new (ci := 5) (ty := tyX2) rfl in_X2 tyX2_ok df_X2 rfl dX5_record_6 wd_243 wd_244 wd_35 rfl) <|
  ac_cons (so_dup dX5_record_9 rfl) <|
  ac_cons (so_callIN (N := M_X2_init) C_X2_init rfl rfl ⟨wd_247, wd_35, dy_X2_init, ⟨by decide, by decide⟩, tb_X5_record⟩ dX5_record_10 wd_245 wd_246 rfl rfl) <|
  ac_cons (so_callV (N := M_X5_holdNew) (ci := 8) C_X5_holdNew rfl ⟨wd_215, wd_24, dy_X5_holdNew, ⟨by decide, by decide⟩, tb_X5_record⟩ rfl dX5_record_13 wd_212 wd_214 wd_2 rfl) <|
  ac_cons (so_ireturn rfl dX5_record_16) <| ac_nil
theorem C_X5_record : ac_Ct yX5_record M_X5_record T_X5_record := ac_meth (by decide +kernel) rfl rfl rfl rfl s_X5_record
-- X5_requirePresent
abbrev rm_X5_requirePresent : Room := { frames := 8, cells := 1, slots := 8, locals := 10240 }
abbrev M_X5_requirePresent : ac_D := (RX5, "requirePresent", cX5_requirePresent, 3, none, [], rm_X5_requirePresent)
theorem tb_X5_requirePresent : ac_tb RX5 [] := fun q h => (by cases h)
theorem dy_X5_requirePresent : yX5_requirePresent.cls ≠ "java/lang/invoke/MethodHandle" ∧ yX5_requirePresent.cls ≠ "java/lang/invoke/VarHandle" ∧ (parseMethodDescriptor yX5_requirePresent.desc).map (fun d => d.parameters.length) = some 1 := by decide +kernel
def k_X5_requirePresent : List (Nat × ac_op) := [(0, op_iload 0 1),
  (1, op_if (fun x => ¬ x = 0) 9 4),
  (4, op_push .null 5),
  (5, op_astore 1 6),
  (6, op_aload 1 7),
  (7, op_npe rm_X5_requirePresent),
  (8, op_istore 2 9),
  (9, op_return rm_X5_requirePresent)]
def T_X5_requirePresent : ac_T := ac_vc k_X5_requirePresent 3
set_option maxRecDepth 100000 in
set_option maxHeartbeats 4000000 in
theorem s_X5_requirePresent : ∀ x ∈ k_X5_requirePresent, ac_So M_X5_requirePresent (fun _ _ _ => False) x.1 x.2 :=
  ac_cons (so_iload_n dX5_requirePresent_0 rfl rfl) <|
  ac_cons (so_if_ne dX5_requirePresent_1 (by decide) rfl) <|
  ac_cons (so_null dX5_requirePresent_4 rfl) <|
  ac_cons (so_astore_n dX5_requirePresent_5 rfl rfl) <|
  ac_cons (so_aload_n dX5_requirePresent_6 rfl rfl) <|
  ac_cons (so_npe rfl at_N dX5_requirePresent_7 ⟨by decide, by decide⟩) <|
  ac_cons (so_istore_n dX5_requirePresent_8 rfl rfl) <|
  ac_cons (so_return rfl dX5_requirePresent_9) <| ac_nil
theorem C_X5_requirePresent : ac_Ct yX5_requirePresent M_X5_requirePresent T_X5_requirePresent := ac_meth (by decide +kernel) rfl rfl rfl rfl s_X5_requirePresent
-- X5_itemIn
abbrev rm_X5_itemIn : Room := { frames := 9, cells := 1, slots := 8, locals := 10262 }
abbrev M_X5_itemIn : ac_D := (RX5, "itemIn", cX5_itemIn, 3, some (FieldType.object "TypedHall$Item"), [], rm_X5_itemIn)
theorem tb_X5_itemIn : ac_tb RX5 [] := fun q h => (by cases h)
theorem dy_X5_itemIn : yX5_itemIn.cls ≠ "java/lang/invoke/MethodHandle" ∧ yX5_itemIn.cls ≠ "java/lang/invoke/VarHandle" ∧ (parseMethodDescriptor yX5_itemIn.desc).map (fun d => d.parameters.length) = some 1 := by decide +kernel
def k_X5_itemIn : List (Nat × ac_op) := [(0, op_aload 0 1),
  (1, op_get 8 0 4),
  (4, op_iload 1 5),
  (5, op_aald 3 6),
  (6, op_astore 2 7),
  (7, op_aload 2 8),
  (8, op_ifnull 15 11),
  (11, op_push (.int 1) 12),
  (12, op_goto 16),
  (15, op_push (.int 0) 16),
  (16, op_callS rm_X5_itemIn [] T_X5_requirePresent rm_X5_requirePresent 1 16 19),
  (19, op_aload 2 20),
  (20, op_areturn rm_X5_itemIn)]
def T_X5_itemIn : ac_T := ac_vc k_X5_itemIn 3
set_option maxRecDepth 100000 in
set_option maxHeartbeats 4000000 in
theorem s_X5_itemIn : ∀ x ∈ k_X5_itemIn, ac_So M_X5_itemIn (fun _ _ _ => False) x.1 x.2 :=
  ac_cons (so_aload_n dX5_itemIn_0 rfl rfl) <|
  ac_cons (so_get (ci := 8) (f := 0) rfl in_X5 (by decide) dX5_itemIn_1 wd_56 rfl) <|
  ac_cons (so_iload_n dX5_itemIn_4 rfl rfl) <|
  ac_cons (so_aald3 dX5_itemIn_5 rfl) <|
  ac_cons (so_astore_n dX5_itemIn_6 rfl rfl) <|
  ac_cons (so_aload_n dX5_itemIn_7 rfl rfl) <|
  ac_cons (so_ifnull dX5_itemIn_8 (by decide) rfl) <|
  ac_cons (so_iconst dX5_itemIn_11 (by decide +kernel) rfl) <|
  ac_cons (so_goto dX5_itemIn_12 (by decide)) <|
  ac_cons (so_iconst dX5_itemIn_15 (by decide +kernel) rfl) <|
  ac_cons (so_callS (N := M_X5_requirePresent) C_X5_requirePresent rfl ⟨wd_293, wd_24, dy_X5_requirePresent, ⟨by decide, by decide⟩, tb_X5_itemIn⟩ dX5_itemIn_16 wd_291 wd_292 rfl) <|
  ac_cons (so_aload_n dX5_itemIn_19 rfl rfl) <|
  ac_cons (so_areturn rfl (by first | exact Or.inl ⟨_, rfl⟩ | exact Or.inr ⟨_, rfl⟩) dX5_itemIn_20) <| ac_nil
theorem C_X5_itemIn : ac_Ct yX5_itemIn M_X5_itemIn T_X5_itemIn := ac_meth (by decide +kernel) rfl rfl rfl rfl s_X5_itemIn
-- X5_requireSupported
abbrev rm_X5_requireSupported : Room := { frames := 6, cells := 1, slots := 6, locals := 81 }
abbrev M_X5_requireSupported : ac_D := (RX5, "requireSupported", cX5_requireSupported, 1, none, [], rm_X5_requireSupported)
theorem tb_X5_requireSupported : ac_tb RX5 [] := fun q h => (by cases h)
theorem dy_X5_requireSupported : yX5_requireSupported.cls ≠ "java/lang/invoke/MethodHandle" ∧ yX5_requireSupported.cls ≠ "java/lang/invoke/VarHandle" ∧ (parseMethodDescriptor yX5_requireSupported.desc).map (fun d => d.parameters.length) = some 1 := by decide +kernel
def k_X5_requireSupported : List (Nat × ac_op) := [(0, op_iload 0 1),
  (1, op_if (fun x => ¬ x = 0) 12 4),
  (4, op_throw rm_X5_requireSupported 2),
  (12, op_return rm_X5_requireSupported)]
def T_X5_requireSupported : ac_T := ac_vc k_X5_requireSupported 1
set_option maxRecDepth 100000 in
set_option maxHeartbeats 4000000 in
theorem s_X5_requireSupported : ∀ x ∈ k_X5_requireSupported, ac_So M_X5_requireSupported (fun _ _ _ => False) x.1 x.2 :=
  ac_cons (so_iload_n dX5_requireSupported_0 rfl rfl) <|
  ac_cons (so_if_ne dX5_requireSupported_1 (by decide) rfl) <|
  ac_cons (so_throw (x := 2) (names := ["java/lang/RuntimeException", "java/lang/Exception"]) rfl (by decide +kernel) (by decide +kernel) (by decide +kernel) dX5_requireSupported_4 dX5_requireSupported_7 dX5_requireSupported_8 dX5_requireSupported_11 ⟨by decide, by decide⟩) <|
  ac_cons (so_return rfl dX5_requireSupported_12) <| ac_nil
theorem C_X5_requireSupported : ac_Ct yX5_requireSupported M_X5_requireSupported T_X5_requireSupported := ac_meth (by decide +kernel) rfl rfl rfl rfl s_X5_requireSupported
-- X5_window
abbrev rm_X5_window : Room := { frames := 10, cells := 6, slots := 35, locals := 10284 }
abbrev M_X5_window : ac_D := (RX5, "window", cX5_window, 6, some FieldType.int, [], rm_X5_window)
theorem tb_X5_window : ac_tb RX5 [] := fun q h => (by cases h)
theorem dy_X5_window : yX5_window.cls ≠ "java/lang/invoke/MethodHandle" ∧ yX5_window.cls ≠ "java/lang/invoke/VarHandle" ∧ (parseMethodDescriptor yX5_window.desc).map (fun d => d.parameters.length) = some 3 := by decide +kernel
def k_X5_window : List (Nat × ac_op) := [(0, op_iload 1 1),
  (1, op_callS rm_X5_window [] T_X5_requireRegister rm_X5_requireRegister 1 1 4),
  (4, op_iload 2 5),
  (5, op_callS rm_X5_window [] T_X5_requireRegister rm_X5_requireRegister 1 5 8),
  (8, op_aload 0 9),
  (9, op_iload 2 10),
  (10, op_callV rm_X5_window [] 8 T_X5_itemIn rm_X5_itemIn 1 10 13),
  (13, op_astore 4 15),
  (15, op_aload 4 17),
  (17, op_callU rm_X5_window [] [(4, T_X1_ground, rm_X1_ground), (5, T_X1_ground, rm_X1_ground), (6, T_X3_ground, rm_X3_ground), (7, T_X4_ground, rm_X4_ground)] 0 17 20),
  (20, op_ifnull 27 23),
  (23, op_push (.int 1) 24),
  (24, op_goto 28),
  (27, op_push (.int 0) 28),
  (28, op_callS rm_X5_window [] T_X5_requireSupported rm_X5_requireSupported 1 28 31),
  (31, op_aload 4 33),
  (33, op_callU rm_X5_window [] [(4, T_X1_windows, rm_X1_windows), (5, T_X1_windows, rm_X1_windows), (6, T_X1_windows, rm_X1_windows), (7, T_X4_windows, rm_X4_windows)] 0 33 36),
  (36, op_push (.int 5) 37),
  (37, op_icmp (fun x y => x ≤ y) 48 40),
  (40, op_throw rm_X5_window 5),
  (48, op_aload 4 50),
  (50, op_callU rm_X5_window [] [(4, T_X1_shift, rm_X1_shift), (5, T_X1_shift, rm_X1_shift), (6, T_X1_shift, rm_X1_shift), (7, T_X4_shift, rm_X4_shift)] 0 50 53),
  (53, op_iload 3 54),
  (54, op_ii (fun x y => x + y) 55),
  (55, op_istore 5 57),
  (57, op_aload 0 58),
  (58, op_iload 1 59),
  (59, op_new rm_X5_window 7 62),
  (62, op_dup 63),
  (63, op_aload 4 65),
  (65, op_callU rm_X5_window [] [(4, T_X1_ground, rm_X1_ground), (5, T_X1_ground, rm_X1_ground), (6, T_X3_ground, rm_X3_ground), (7, T_X4_ground, rm_X4_ground)] 0 65 68),
  (68, op_iload 5 70),
  (70, op_aload 4 72),
  (72, op_callU rm_X5_window [] [(4, T_X1_windows, rm_X1_windows), (5, T_X1_windows, rm_X1_windows), (6, T_X1_windows, rm_X1_windows), (7, T_X4_windows, rm_X4_windows)] 0 72 75),
  (75, op_push (.int 1) 76),
  (76, op_ii (fun x y => x + y) 77),
  (77, op_callI rm_X5_window [] T_X4_init rm_X4_init 3 77 80),
  (80, op_callV rm_X5_window [] 8 T_X5_holdNew rm_X5_holdNew 2 80 83),
  (83, op_ireturn rm_X5_window)]
def T_X5_window : ac_T := ac_vc k_X5_window 6
set_option maxRecDepth 100000 in
set_option maxHeartbeats 4000000 in
theorem s_X5_window : ∀ x ∈ k_X5_window, ac_So M_X5_window (fun _ _ _ => False) x.1 x.2 :=
  ac_cons (so_iload_n dX5_window_0 rfl rfl) <|
  ac_cons (so_callS (N := M_X5_requireRegister) C_X5_requireRegister rfl ⟨wd_158, wd_24, dy_X5_requireRegister, ⟨by decide, by decide⟩, tb_X5_window⟩ dX5_window_1 wd_156 wd_157 rfl) <|
  ac_cons (so_iload_n dX5_window_4 rfl rfl) <|
  ac_cons (so_callS (N := M_X5_requireRegister) C_X5_requireRegister rfl ⟨wd_158, wd_24, dy_X5_requireRegister, ⟨by decide, by decide⟩, tb_X5_window⟩ dX5_window_5 wd_156 wd_157 rfl) <|
  ac_cons (so_aload_n dX5_window_8 rfl rfl) <|
  ac_cons (so_iload_n dX5_window_9 rfl rfl) <|
  ac_cons (so_callV (N := M_X5_itemIn) (ci := 8) C_X5_itemIn rfl ⟨wd_290, wd_24, dy_X5_itemIn, ⟨by decide, by decide⟩, tb_X5_window⟩ rfl dX5_window_10 wd_287 wd_289 wd_3 rfl) <|
  ac_cons (so_astore dX5_window_13 rfl) <|
  ac_cons (so_aload dX5_window_15 rfl) <|
  ac_cons (so_callU (M := M_X5_window) (x := ⟨"TypedHall$Item", "ground", "()LTypedHall$VectorItem;"⟩) (ac_cons4 (⟨yX1_ground, M_X1_ground, _, C_X1_ground, rfl, rfl, ⟨wd_305, wd_32, dy_X1_ground, ⟨by decide, by decide⟩, tb_X5_window⟩, rfl, wd_295, wd_297⟩) (⟨yX1_ground, M_X1_ground, _, C_X1_ground, rfl, rfl, ⟨wd_305, wd_32, dy_X1_ground, ⟨by decide, by decide⟩, tb_X5_window⟩, rfl, wd_295, wd_298⟩) (⟨yX3_ground, M_X3_ground, _, C_X3_ground, rfl, rfl, ⟨wd_301, wd_33, dy_X3_ground, ⟨by decide, by decide⟩, tb_X5_window⟩, rfl, wd_300, wd_299⟩) (⟨yX4_ground, M_X4_ground, _, C_X4_ground, rfl, rfl, ⟨wd_304, wd_39, dy_X4_ground, ⟨by decide, by decide⟩, tb_X5_window⟩, rfl, wd_303, wd_302⟩)) (Or.inl ⟨wd_295, _, _, _, wd_305⟩) wd_296 ⟨by decide, by decide, by decide +kernel⟩ dX5_window_17 wd_294 rfl) <|
  ac_cons (so_ifnull dX5_window_20 (by decide) rfl) <|
  ac_cons (so_iconst dX5_window_23 (by decide +kernel) rfl) <|
  ac_cons (so_goto dX5_window_24 (by decide)) <|
  ac_cons (so_iconst dX5_window_27 (by decide +kernel) rfl) <|
  ac_cons (so_callS (N := M_X5_requireSupported) C_X5_requireSupported rfl ⟨wd_308, wd_24, dy_X5_requireSupported, ⟨by decide, by decide⟩, tb_X5_window⟩ dX5_window_28 wd_306 wd_307 rfl) <|
  ac_cons (so_aload dX5_window_31 rfl) <|
  ac_cons (so_callU (M := M_X5_window) (x := ⟨"TypedHall$Item", "windows", "()I"⟩) (ac_cons4 (⟨yX1_windows, M_X1_windows, _, C_X1_windows, rfl, rfl, ⟨wd_333, wd_32, dy_X1_windows, ⟨by decide, by decide⟩, tb_X5_window⟩, rfl, wd_325, wd_327⟩) (⟨yX1_windows, M_X1_windows, _, C_X1_windows, rfl, rfl, ⟨wd_333, wd_32, dy_X1_windows, ⟨by decide, by decide⟩, tb_X5_window⟩, rfl, wd_325, wd_328⟩) (⟨yX1_windows, M_X1_windows, _, C_X1_windows, rfl, rfl, ⟨wd_333, wd_32, dy_X1_windows, ⟨by decide, by decide⟩, tb_X5_window⟩, rfl, wd_325, wd_329⟩) (⟨yX4_windows, M_X4_windows, _, C_X4_windows, rfl, rfl, ⟨wd_332, wd_39, dy_X4_windows, ⟨by decide, by decide⟩, tb_X5_window⟩, rfl, wd_331, wd_330⟩)) (Or.inl ⟨wd_325, _, _, _, wd_333⟩) wd_326 ⟨by decide, by decide, by decide +kernel⟩ dX5_window_33 wd_324 rfl) <|
  ac_cons (so_iconst dX5_window_36 (by decide +kernel) rfl) <|
  ac_cons (so_icmp_le dX5_window_37 (by decide) rfl) <|
  ac_cons (so_throw (x := 5) (names := ["java/lang/RuntimeException", "java/lang/Exception"]) rfl (by decide +kernel) (by decide +kernel) (by decide +kernel) dX5_window_40 dX5_window_43 dX5_window_44 dX5_window_47 ⟨by decide, by decide⟩) <|
  ac_cons (so_aload dX5_window_48 rfl) <|
  ac_cons (so_callU (M := M_X5_window) (x := ⟨"TypedHall$Item", "shift", "()I"⟩) (ac_cons4 (⟨yX1_shift, M_X1_shift, _, C_X1_shift, rfl, rfl, ⟨wd_358, wd_32, dy_X1_shift, ⟨by decide, by decide⟩, tb_X5_window⟩, rfl, wd_350, wd_352⟩) (⟨yX1_shift, M_X1_shift, _, C_X1_shift, rfl, rfl, ⟨wd_358, wd_32, dy_X1_shift, ⟨by decide, by decide⟩, tb_X5_window⟩, rfl, wd_350, wd_353⟩) (⟨yX1_shift, M_X1_shift, _, C_X1_shift, rfl, rfl, ⟨wd_358, wd_32, dy_X1_shift, ⟨by decide, by decide⟩, tb_X5_window⟩, rfl, wd_350, wd_354⟩) (⟨yX4_shift, M_X4_shift, _, C_X4_shift, rfl, rfl, ⟨wd_357, wd_39, dy_X4_shift, ⟨by decide, by decide⟩, tb_X5_window⟩, rfl, wd_356, wd_355⟩)) (Or.inl ⟨wd_350, _, _, _, wd_358⟩) wd_351 ⟨by decide, by decide, by decide +kernel⟩ dX5_window_50 wd_349 rfl) <|
  ac_cons (so_iload_n dX5_window_53 rfl rfl) <|
  ac_cons (so_iadd dX5_window_54 rfl) <|
  ac_cons (so_istore dX5_window_55 rfl) <|
  ac_cons (so_aload_n dX5_window_57 rfl rfl) <|
  ac_cons (so_iload_n dX5_window_58 rfl rfl) <|
  ac_cons (so_new (ci := 7) (ty := tyX4) rfl in_X4 tyX4_ok df_X4 rfl dX5_window_59 wd_359 wd_360 wd_39 rfl) <|
  ac_cons (so_dup dX5_window_62 rfl) <|
  ac_cons (so_aload dX5_window_63 rfl) <|
  ac_cons (so_callU (M := M_X5_window) (x := ⟨"TypedHall$Item", "ground", "()LTypedHall$VectorItem;"⟩) (ac_cons4 (⟨yX1_ground, M_X1_ground, _, C_X1_ground, rfl, rfl, ⟨wd_305, wd_32, dy_X1_ground, ⟨by decide, by decide⟩, tb_X5_window⟩, rfl, wd_295, wd_297⟩) (⟨yX1_ground, M_X1_ground, _, C_X1_ground, rfl, rfl, ⟨wd_305, wd_32, dy_X1_ground, ⟨by decide, by decide⟩, tb_X5_window⟩, rfl, wd_295, wd_298⟩) (⟨yX3_ground, M_X3_ground, _, C_X3_ground, rfl, rfl, ⟨wd_301, wd_33, dy_X3_ground, ⟨by decide, by decide⟩, tb_X5_window⟩, rfl, wd_300, wd_299⟩) (⟨yX4_ground, M_X4_ground, _, C_X4_ground, rfl, rfl, ⟨wd_304, wd_39, dy_X4_ground, ⟨by decide, by decide⟩, tb_X5_window⟩, rfl, wd_303, wd_302⟩)) (Or.inl ⟨wd_295, _, _, _, wd_305⟩) wd_296 ⟨by decide, by decide, by decide +kernel⟩ dX5_window_65 wd_294 rfl) <|
  ac_cons (so_iload dX5_window_68 rfl) <|
  ac_cons (so_aload dX5_window_70 rfl) <|
  ac_cons (so_callU (M := M_X5_window) (x := ⟨"TypedHall$Item", "windows", "()I"⟩) (ac_cons4 (⟨yX1_windows, M_X1_windows, _, C_X1_windows, rfl, rfl, ⟨wd_333, wd_32, dy_X1_windows, ⟨by decide, by decide⟩, tb_X5_window⟩, rfl, wd_325, wd_327⟩) (⟨yX1_windows, M_X1_windows, _, C_X1_windows, rfl, rfl, ⟨wd_333, wd_32, dy_X1_windows, ⟨by decide, by decide⟩, tb_X5_window⟩, rfl, wd_325, wd_328⟩) (⟨yX1_windows, M_X1_windows, _, C_X1_windows, rfl, rfl, ⟨wd_333, wd_32, dy_X1_windows, ⟨by decide, by decide⟩, tb_X5_window⟩, rfl, wd_325, wd_329⟩) (⟨yX4_windows, M_X4_windows, _, C_X4_windows, rfl, rfl, ⟨wd_332, wd_39, dy_X4_windows, ⟨by decide, by decide⟩, tb_X5_window⟩, rfl, wd_331, wd_330⟩)) (Or.inl ⟨wd_325, _, _, _, wd_333⟩) wd_326 ⟨by decide, by decide, by decide +kernel⟩ dX5_window_72 wd_324 rfl) <|
  ac_cons (so_iconst dX5_window_75 (by decide +kernel) rfl) <|
  ac_cons (so_iadd dX5_window_76 rfl) <|
  ac_cons (so_callI (N := M_X4_init) C_X4_init rfl rfl ⟨wd_363, wd_39, dy_X4_init, ⟨by decide, by decide⟩, tb_X5_window⟩ dX5_window_77 wd_361 wd_362 rfl rfl) <|
  ac_cons (so_callV (N := M_X5_holdNew) (ci := 8) C_X5_holdNew rfl ⟨wd_215, wd_24, dy_X5_holdNew, ⟨by decide, by decide⟩, tb_X5_window⟩ rfl dX5_window_80 wd_212 wd_214 wd_2 rfl) <|
  ac_cons (so_ireturn rfl dX5_window_83) <| ac_nil
theorem C_X5_window : ac_Ct yX5_window M_X5_window T_X5_window := ac_meth (by decide +kernel) rfl rfl rfl rfl s_X5_window
-- X5_copy
abbrev rm_X5_copy : Room := { frames := 8, cells := 2, slots := 12, locals := 121 }
abbrev M_X5_copy : ac_D := (RX5, "copy", cX5_copy, 5, some FieldType.boolean, [], rm_X5_copy)
theorem tb_X5_copy : ac_tb RX5 [] := fun q h => (by cases h)
theorem dy_X5_copy : yX5_copy.cls ≠ "java/lang/invoke/MethodHandle" ∧ yX5_copy.cls ≠ "java/lang/invoke/VarHandle" ∧ (parseMethodDescriptor yX5_copy.desc).map (fun d => d.parameters.length) = some 2 := by decide +kernel
def k_X5_copy : List (Nat × ac_op) := [(0, op_iload 1 1),
  (1, op_callS rm_X5_copy [] T_X5_requireRegister rm_X5_requireRegister 1 1 4),
  (4, op_iload 2 5),
  (5, op_push (.int (-1)) 6),
  (6, op_icmp (fun x y => x < y) 19 9),
  (9, op_iload 2 10),
  (10, op_push (.int 8) 12),
  (12, op_icmp (fun x y => y ≤ x) 19 15),
  (15, op_push (.int 1) 16),
  (16, op_goto 20),
  (19, op_push (.int 0) 20),
  (20, op_callS rm_X5_copy [] T_X5_requireArgument rm_X5_requireArgument 1 20 23),
  (23, op_iload 2 24),
  (24, op_push (.int (-1)) 25),
  (25, op_icmp (fun x y => ¬ x = y) 32 28),
  (28, op_push .null 29),
  (29, op_goto 38),
  (32, op_aload 0 33),
  (33, op_get 8 0 36),
  (36, op_iload 2 37),
  (37, op_aald 3 38),
  (38, op_astore 3 39),
  (39, op_aload 0 40),
  (40, op_get 8 0 43),
  (43, op_iload 1 44),
  (44, op_aald 3 45),
  (45, op_aload 3 46),
  (46, op_acmpne 53 49),
  (49, op_push (.int 1) 50),
  (50, op_goto 54),
  (53, op_push (.int 0) 54),
  (54, op_istore 4 56),
  (56, op_aload 0 57),
  (57, op_get 8 0 60),
  (60, op_iload 1 61),
  (61, op_aload 3 62),
  (62, op_aast 3 63),
  (63, op_iload 4 65),
  (65, op_zreturn rm_X5_copy)]
def T_X5_copy : ac_T := ac_vc k_X5_copy 5
set_option maxRecDepth 100000 in
set_option maxHeartbeats 4000000 in
theorem s_X5_copy : ∀ x ∈ k_X5_copy, ac_So M_X5_copy (fun _ _ _ => False) x.1 x.2 :=
  ac_cons (so_iload_n dX5_copy_0 rfl rfl) <|
  ac_cons (so_callS (N := M_X5_requireRegister) C_X5_requireRegister rfl ⟨wd_158, wd_24, dy_X5_requireRegister, ⟨by decide, by decide⟩, tb_X5_copy⟩ dX5_copy_1 wd_156 wd_157 rfl) <|
  ac_cons (so_iload_n dX5_copy_4 rfl rfl) <|
  ac_cons (so_iconst dX5_copy_5 (by decide +kernel) rfl) <|
  ac_cons (so_icmp_lt dX5_copy_6 (by decide) rfl) <|
  ac_cons (so_iload_n dX5_copy_9 rfl rfl) <|
  ac_cons (so_bipush dX5_copy_10 (by decide +kernel) rfl) <|
  ac_cons (so_icmp_ge dX5_copy_12 (by decide) rfl) <|
  ac_cons (so_iconst dX5_copy_15 (by decide +kernel) rfl) <|
  ac_cons (so_goto dX5_copy_16 (by decide)) <|
  ac_cons (so_iconst dX5_copy_19 (by decide +kernel) rfl) <|
  ac_cons (so_callS (N := M_X5_requireArgument) C_X5_requireArgument rfl ⟨wd_161, wd_24, dy_X5_requireArgument, ⟨by decide, by decide⟩, tb_X5_copy⟩ dX5_copy_20 wd_159 wd_160 rfl) <|
  ac_cons (so_iload_n dX5_copy_23 rfl rfl) <|
  ac_cons (so_iconst dX5_copy_24 (by decide +kernel) rfl) <|
  ac_cons (so_icmp_ne dX5_copy_25 (by decide) rfl) <|
  ac_cons (so_null dX5_copy_28 rfl) <|
  ac_cons (so_goto dX5_copy_29 (by decide)) <|
  ac_cons (so_aload_n dX5_copy_32 rfl rfl) <|
  ac_cons (so_get (ci := 8) (f := 0) rfl in_X5 (by decide) dX5_copy_33 wd_56 rfl) <|
  ac_cons (so_iload_n dX5_copy_36 rfl rfl) <|
  ac_cons (so_aald3 dX5_copy_37 rfl) <|
  ac_cons (so_astore_n dX5_copy_38 rfl rfl) <|
  ac_cons (so_aload_n dX5_copy_39 rfl rfl) <|
  ac_cons (so_get (ci := 8) (f := 0) rfl in_X5 (by decide) dX5_copy_40 wd_56 rfl) <|
  ac_cons (so_iload_n dX5_copy_43 rfl rfl) <|
  ac_cons (so_aald3 dX5_copy_44 rfl) <|
  ac_cons (so_aload_n dX5_copy_45 rfl rfl) <|
  ac_cons (so_acmpne dX5_copy_46 (by decide) rfl) <|
  ac_cons (so_iconst dX5_copy_49 (by decide +kernel) rfl) <|
  ac_cons (so_goto dX5_copy_50 (by decide)) <|
  ac_cons (so_iconst dX5_copy_53 (by decide +kernel) rfl) <|
  ac_cons (so_istore dX5_copy_54 rfl) <|
  ac_cons (so_aload_n dX5_copy_56 rfl rfl) <|
  ac_cons (so_get (ci := 8) (f := 0) rfl in_X5 (by decide) dX5_copy_57 wd_56 rfl) <|
  ac_cons (so_iload_n dX5_copy_60 rfl rfl) <|
  ac_cons (so_aload_n dX5_copy_61 rfl rfl) <|
  ac_cons (so_aast3 dX5_copy_62 rfl) <|
  ac_cons (so_iload dX5_copy_63 rfl) <|
  ac_cons (so_zreturn rfl dX5_copy_65) <| ac_nil
theorem C_X5_copy : ac_Ct yX5_copy M_X5_copy T_X5_copy := ac_meth (by decide +kernel) rfl rfl rfl rfl s_X5_copy
-- X5_requireIndex
abbrev rm_X5_requireIndex : Room := { frames := 8, cells := 3, slots := 222, locals := 10240 }
abbrev M_X5_requireIndex : ac_D := (RX5, "requireIndex", cX5_requireIndex, 3, none, [], rm_X5_requireIndex)
theorem tb_X5_requireIndex : ac_tb RX5 [] := fun q h => (by cases h)
theorem dy_X5_requireIndex : yX5_requireIndex.cls ≠ "java/lang/invoke/MethodHandle" ∧ yX5_requireIndex.cls ≠ "java/lang/invoke/VarHandle" ∧ (parseMethodDescriptor yX5_requireIndex.desc).map (fun d => d.parameters.length) = some 2 := by decide +kernel
def k_X5_requireIndex : List (Nat × ac_op) := [(0, op_iload 0 1),
  (1, op_if (fun x => x < 0) 9 4),
  (4, op_iload 0 5),
  (5, op_iload 1 6),
  (6, op_icmp (fun x y => x < y) 15 9),
  (9, op_oob rm_X5_requireIndex),
  (15, op_return rm_X5_requireIndex)]
def T_X5_requireIndex : ac_T := ac_vc k_X5_requireIndex 3
set_option maxRecDepth 100000 in
set_option maxHeartbeats 4000000 in
theorem s_X5_requireIndex : ∀ x ∈ k_X5_requireIndex, ac_So M_X5_requireIndex (fun _ _ _ => False) x.1 x.2 :=
  ac_cons (so_iload_n dX5_requireIndex_0 rfl rfl) <|
  ac_cons (so_if_lt dX5_requireIndex_1 (by decide) rfl) <|
  ac_cons (so_iload_n dX5_requireIndex_4 rfl rfl) <|
  ac_cons (so_iload_n dX5_requireIndex_5 rfl rfl) <|
  ac_cons (so_icmp_lt dX5_requireIndex_6 (by decide) rfl) <|
  ac_cons (so_oob rfl at_M3 wd_414 dX5_requireIndex_9 dX5_requireIndex_12 dX5_requireIndex_13 ⟨by decide, by decide⟩) <|
  ac_cons (so_return rfl dX5_requireIndex_15) <| ac_nil
theorem C_X5_requireIndex : ac_Ct yX5_requireIndex M_X5_requireIndex T_X5_requireIndex := ac_meth (by decide +kernel) rfl rfl rfl rfl s_X5_requireIndex
-- X5_loseRow
abbrev rm_X5_loseRow : Room := { frames := 9, cells := 4, slots := 230, locals := 10262 }
abbrev M_X5_loseRow : ac_D := (RX5, "loseRow", cX5_loseRow, 3, some FieldType.int, [], rm_X5_loseRow)
theorem tb_X5_loseRow : ac_tb RX5 [] := fun q h => (by cases h)
theorem dy_X5_loseRow : yX5_loseRow.cls ≠ "java/lang/invoke/MethodHandle" ∧ yX5_loseRow.cls ≠ "java/lang/invoke/VarHandle" ∧ (parseMethodDescriptor yX5_loseRow.desc).map (fun d => d.parameters.length) = some 2 := by decide +kernel
def k_X5_loseRow : List (Nat × ac_op) := [(0, op_iload 1 1),
  (1, op_aload 0 2),
  (2, op_get 4 0 5),
  (5, op_alen 4 6),
  (6, op_callS rm_X5_loseRow [] T_X5_requireIndex rm_X5_requireIndex 2 6 9),
  (9, op_aload 0 10),
  (10, op_get 4 0 13),
  (13, op_iload 1 14),
  (14, op_aald 4 15),
  (15, op_ifnull 22 18),
  (18, op_push (.int 1) 19),
  (19, op_goto 23),
  (22, op_push (.int 0) 23),
  (23, op_callS rm_X5_loseRow [] T_X5_requirePresent rm_X5_requirePresent 1 23 26),
  (26, op_aload 0 27),
  (27, op_get 4 0 30),
  (30, op_iload 1 31),
  (31, op_aald 4 32),
  (32, op_alen 0 33),
  (33, op_istore 2 34),
  (34, op_aload 0 35),
  (35, op_get 4 0 38),
  (38, op_iload 1 39),
  (39, op_push .null 40),
  (40, op_aast 4 41),
  (41, op_iload 2 42),
  (42, op_ireturn rm_X5_loseRow)]
def T_X5_loseRow : ac_T := ac_vc k_X5_loseRow 3
set_option maxRecDepth 100000 in
set_option maxHeartbeats 4000000 in
theorem s_X5_loseRow : ∀ x ∈ k_X5_loseRow, ac_So M_X5_loseRow (fun _ _ _ => False) x.1 x.2 :=
  ac_cons (so_iload_n dX5_loseRow_0 rfl rfl) <|
  ac_cons (so_aload_n dX5_loseRow_1 rfl rfl) <|
  ac_cons (so_getN (ci := 4) (f := 0) rfl in_X0 (by decide) dX5_loseRow_2 wd_232 rfl) <|
  ac_cons (so_alen (t := 4) (ty := .array .int) (fun _ => rfl) dX5_loseRow_5 rfl) <|
  ac_cons (so_callS (N := M_X5_requireIndex) C_X5_requireIndex rfl ⟨wd_413, wd_24, dy_X5_requireIndex, ⟨by decide, by decide⟩, tb_X5_loseRow⟩ dX5_loseRow_6 wd_411 wd_412 rfl) <|
  ac_cons (so_aload_n dX5_loseRow_9 rfl rfl) <|
  ac_cons (so_getN (ci := 4) (f := 0) rfl in_X0 (by decide) dX5_loseRow_10 wd_232 rfl) <|
  ac_cons (so_iload_n dX5_loseRow_13 rfl rfl) <|
  ac_cons (so_aald4 dX5_loseRow_14 rfl) <|
  ac_cons (so_ifnull dX5_loseRow_15 (by decide) rfl) <|
  ac_cons (so_iconst dX5_loseRow_18 (by decide +kernel) rfl) <|
  ac_cons (so_goto dX5_loseRow_19 (by decide)) <|
  ac_cons (so_iconst dX5_loseRow_22 (by decide +kernel) rfl) <|
  ac_cons (so_callS (N := M_X5_requirePresent) C_X5_requirePresent rfl ⟨wd_293, wd_24, dy_X5_requirePresent, ⟨by decide, by decide⟩, tb_X5_loseRow⟩ dX5_loseRow_23 wd_291 wd_292 rfl) <|
  ac_cons (so_aload_n dX5_loseRow_26 rfl rfl) <|
  ac_cons (so_getN (ci := 4) (f := 0) rfl in_X0 (by decide) dX5_loseRow_27 wd_232 rfl) <|
  ac_cons (so_iload_n dX5_loseRow_30 rfl rfl) <|
  ac_cons (so_aald4 dX5_loseRow_31 rfl) <|
  ac_cons (so_alen (t := 0) (ty := .int) (fun _ => rfl) dX5_loseRow_32 rfl) <|
  ac_cons (so_istore_n dX5_loseRow_33 rfl rfl) <|
  ac_cons (so_aload_n dX5_loseRow_34 rfl rfl) <|
  ac_cons (so_getN (ci := 4) (f := 0) rfl in_X0 (by decide) dX5_loseRow_35 wd_232 rfl) <|
  ac_cons (so_iload_n dX5_loseRow_38 rfl rfl) <|
  ac_cons (so_null dX5_loseRow_39 rfl) <|
  ac_cons (so_aast4 dX5_loseRow_40 rfl) <|
  ac_cons (so_iload_n dX5_loseRow_41 rfl rfl) <|
  ac_cons (so_ireturn rfl dX5_loseRow_42) <| ac_nil
theorem C_X5_loseRow : ac_Ct yX5_loseRow M_X5_loseRow T_X5_loseRow := ac_meth (by decide +kernel) rfl rfl rfl rfl s_X5_loseRow
-- X5_vectorOf
abbrev rm_X5_vectorOf : Room := { frames := 7, cells := 1, slots := 6, locals := 101 }
abbrev M_X5_vectorOf : ac_D := (RX5, "vectorOf", cX5_vectorOf, 3, some (FieldType.object "TypedHall$VectorItem"), [], rm_X5_vectorOf)
theorem tb_X5_vectorOf : ac_tb RX5 [] := fun q h => (by cases h)
theorem dy_X5_vectorOf : yX5_vectorOf.cls ≠ "java/lang/invoke/MethodHandle" ∧ yX5_vectorOf.cls ≠ "java/lang/invoke/VarHandle" ∧ (parseMethodDescriptor yX5_vectorOf.desc).map (fun d => d.parameters.length) = some 1 := by decide +kernel
def k_X5_vectorOf : List (Nat × ac_op) := [(0, op_aload 0 1),
  (1, op_inst 6 4),
  (4, op_if (fun x => x = 0) 16 7),
  (7, op_aload 0 8),
  (8, op_cast 6 11),
  (11, op_astore 2 12),
  (12, op_aload 2 13),
  (13, op_goto 17),
  (16, op_push .null 17),
  (17, op_astore 1 18),
  (18, op_aload 1 19),
  (19, op_ifnull 26 22),
  (22, op_push (.int 1) 23),
  (23, op_goto 27),
  (26, op_push (.int 0) 27),
  (27, op_callS rm_X5_vectorOf [] T_X5_requireSupported rm_X5_requireSupported 1 27 30),
  (30, op_aload 1 31),
  (31, op_areturn rm_X5_vectorOf)]
def T_X5_vectorOf : ac_T := ac_vc k_X5_vectorOf 3
set_option maxRecDepth 100000 in
set_option maxHeartbeats 4000000 in
theorem s_X5_vectorOf : ∀ x ∈ k_X5_vectorOf, ac_So M_X5_vectorOf (fun _ _ _ => False) x.1 x.2 :=
  ac_cons (so_aload_n dX5_vectorOf_0 rfl rfl) <|
  ac_cons (so_inst (ci := 6) (by decide) rfl dX5_vectorOf_1 wd_186 rfl) <|
  ac_cons (so_if_eq dX5_vectorOf_4 (by decide) rfl) <|
  ac_cons (so_aload_n dX5_vectorOf_7 rfl rfl) <|
  ac_cons (so_cast (ci := 6) rfl dX5_vectorOf_8 wd_186 rfl) <|
  ac_cons (so_astore_n dX5_vectorOf_11 rfl rfl) <|
  ac_cons (so_aload_n dX5_vectorOf_12 rfl rfl) <|
  ac_cons (so_goto dX5_vectorOf_13 (by decide)) <|
  ac_cons (so_null dX5_vectorOf_16 rfl) <|
  ac_cons (so_astore_n dX5_vectorOf_17 rfl rfl) <|
  ac_cons (so_aload_n dX5_vectorOf_18 rfl rfl) <|
  ac_cons (so_ifnull dX5_vectorOf_19 (by decide) rfl) <|
  ac_cons (so_iconst dX5_vectorOf_22 (by decide +kernel) rfl) <|
  ac_cons (so_goto dX5_vectorOf_23 (by decide)) <|
  ac_cons (so_iconst dX5_vectorOf_26 (by decide +kernel) rfl) <|
  ac_cons (so_callS (N := M_X5_requireSupported) C_X5_requireSupported rfl ⟨wd_308, wd_24, dy_X5_requireSupported, ⟨by decide, by decide⟩, tb_X5_vectorOf⟩ dX5_vectorOf_27 wd_306 wd_307 rfl) <|
  ac_cons (so_aload_n dX5_vectorOf_30 rfl rfl) <|
  ac_cons (so_areturn rfl (by first | exact Or.inl ⟨_, rfl⟩ | exact Or.inr ⟨_, rfl⟩) dX5_vectorOf_31) <| ac_nil
theorem C_X5_vectorOf : ac_Ct yX5_vectorOf M_X5_vectorOf T_X5_vectorOf := ac_meth (by decide +kernel) rfl rfl rfl rfl s_X5_vectorOf
-- X5_loseStorage
abbrev rm_X5_loseStorage : Room := { frames := 9, cells := 1, slots := 8, locals := 10262 }
abbrev M_X5_loseStorage : ac_D := (RX5, "loseStorage", cX5_loseStorage, 2, some FieldType.int, [], rm_X5_loseStorage)
theorem tb_X5_loseStorage : ac_tb RX5 [] := fun q h => (by cases h)
theorem dy_X5_loseStorage : yX5_loseStorage.cls ≠ "java/lang/invoke/MethodHandle" ∧ yX5_loseStorage.cls ≠ "java/lang/invoke/VarHandle" ∧ (parseMethodDescriptor yX5_loseStorage.desc).map (fun d => d.parameters.length) = some 1 := by decide +kernel
def k_X5_loseStorage : List (Nat × ac_op) := [(0, op_aload 0 1),
  (1, op_callV rm_X5_loseStorage [] 6 T_X3_isLost rm_X3_isLost 0 1 4),
  (4, op_if (fun x => ¬ x = 0) 11 7),
  (7, op_push (.int 1) 8),
  (8, op_goto 12),
  (11, op_push (.int 0) 12),
  (12, op_callS rm_X5_loseStorage [] T_X5_requirePresent rm_X5_requirePresent 1 12 15),
  (15, op_aload 0 16),
  (16, op_callV rm_X5_loseStorage [] 6 T_X3_length rm_X3_length 0 16 19),
  (19, op_istore 1 20),
  (20, op_aload 0 21),
  (21, op_callV rm_X5_loseStorage [] 6 T_X3_dropStorage rm_X3_dropStorage 0 21 24),
  (24, op_iload 1 25),
  (25, op_ireturn rm_X5_loseStorage)]
def T_X5_loseStorage : ac_T := ac_vc k_X5_loseStorage 2
set_option maxRecDepth 100000 in
set_option maxHeartbeats 4000000 in
theorem s_X5_loseStorage : ∀ x ∈ k_X5_loseStorage, ac_So M_X5_loseStorage (fun _ _ _ => False) x.1 x.2 :=
  ac_cons (so_aload_n dX5_loseStorage_0 rfl rfl) <|
  ac_cons (so_callV (N := M_X3_isLost) (ci := 6) C_X3_isLost rfl ⟨wd_425, wd_33, dy_X3_isLost, ⟨by decide, by decide⟩, tb_X5_loseStorage⟩ rfl dX5_loseStorage_1 wd_422 wd_423 wd_424 rfl) <|
  ac_cons (so_if_ne dX5_loseStorage_4 (by decide) rfl) <|
  ac_cons (so_iconst dX5_loseStorage_7 (by decide +kernel) rfl) <|
  ac_cons (so_goto dX5_loseStorage_8 (by decide)) <|
  ac_cons (so_iconst dX5_loseStorage_11 (by decide +kernel) rfl) <|
  ac_cons (so_callS (N := M_X5_requirePresent) C_X5_requirePresent rfl ⟨wd_293, wd_24, dy_X5_requirePresent, ⟨by decide, by decide⟩, tb_X5_loseStorage⟩ dX5_loseStorage_12 wd_291 wd_292 rfl) <|
  ac_cons (so_aload_n dX5_loseStorage_15 rfl rfl) <|
  ac_cons (so_callV (N := M_X3_length) (ci := 6) C_X3_length rfl ⟨wd_429, wd_33, dy_X3_length, ⟨by decide, by decide⟩, tb_X5_loseStorage⟩ rfl dX5_loseStorage_16 wd_426 wd_427 wd_428 rfl) <|
  ac_cons (so_istore_n dX5_loseStorage_19 rfl rfl) <|
  ac_cons (so_aload_n dX5_loseStorage_20 rfl rfl) <|
  ac_cons (so_callV (N := M_X3_dropStorage) (ci := 6) C_X3_dropStorage rfl ⟨wd_433, wd_33, dy_X3_dropStorage, ⟨by decide, by decide⟩, tb_X5_loseStorage⟩ rfl dX5_loseStorage_21 wd_430 wd_431 wd_432 rfl) <|
  ac_cons (so_iload_n dX5_loseStorage_24 rfl rfl) <|
  ac_cons (so_ireturn rfl dX5_loseStorage_25) <| ac_nil
theorem C_X5_loseStorage : ac_Ct yX5_loseStorage M_X5_loseStorage T_X5_loseStorage := ac_meth (by decide +kernel) rfl rfl rfl rfl s_X5_loseStorage
-- X5_lose
abbrev rm_X5_lose : Room := { frames := 10, cells := 8, slots := 258, locals := 10284 }
abbrev M_X5_lose : ac_D := (RX5, "lose", cX5_lose, 5, some FieldType.int, [], rm_X5_lose)
theorem tb_X5_lose : ac_tb RX5 [] := fun q h => (by cases h)
theorem dy_X5_lose : yX5_lose.cls ≠ "java/lang/invoke/MethodHandle" ∧ yX5_lose.cls ≠ "java/lang/invoke/VarHandle" ∧ (parseMethodDescriptor yX5_lose.desc).map (fun d => d.parameters.length) = some 2 := by decide +kernel
def k_X5_lose : List (Nat × ac_op) := [(0, op_iload 1 1),
  (1, op_callS rm_X5_lose [] T_X5_requireRegister rm_X5_requireRegister 1 1 4),
  (4, op_aload 0 5),
  (5, op_iload 1 6),
  (6, op_callV rm_X5_lose [] 8 T_X5_itemIn rm_X5_itemIn 1 6 9),
  (9, op_astore 3 10),
  (10, op_aload 3 11),
  (11, op_inst 4 14),
  (14, op_if (fun x => x = 0) 30 17),
  (17, op_aload 3 18),
  (18, op_cast 4 21),
  (21, op_astore 4 23),
  (23, op_aload 4 25),
  (25, op_iload 2 26),
  (26, op_callS rm_X5_lose [] T_X5_loseRow rm_X5_loseRow 2 26 29),
  (29, op_ireturn rm_X5_lose),
  (30, op_aload 3 31),
  (31, op_callS rm_X5_lose [] T_X5_vectorOf rm_X5_vectorOf 1 31 34),
  (34, op_callS rm_X5_lose [] T_X5_loseStorage rm_X5_loseStorage 1 34 37),
  (37, op_ireturn rm_X5_lose)]
def T_X5_lose : ac_T := ac_vc k_X5_lose 5
set_option maxRecDepth 100000 in
set_option maxHeartbeats 4000000 in
theorem s_X5_lose : ∀ x ∈ k_X5_lose, ac_So M_X5_lose (fun _ _ _ => False) x.1 x.2 :=
  ac_cons (so_iload_n dX5_lose_0 rfl rfl) <|
  ac_cons (so_callS (N := M_X5_requireRegister) C_X5_requireRegister rfl ⟨wd_158, wd_24, dy_X5_requireRegister, ⟨by decide, by decide⟩, tb_X5_lose⟩ dX5_lose_1 wd_156 wd_157 rfl) <|
  ac_cons (so_aload_n dX5_lose_4 rfl rfl) <|
  ac_cons (so_iload_n dX5_lose_5 rfl rfl) <|
  ac_cons (so_callV (N := M_X5_itemIn) (ci := 8) C_X5_itemIn rfl ⟨wd_290, wd_24, dy_X5_itemIn, ⟨by decide, by decide⟩, tb_X5_lose⟩ rfl dX5_lose_6 wd_287 wd_289 wd_3 rfl) <|
  ac_cons (so_astore_n dX5_lose_9 rfl rfl) <|
  ac_cons (so_aload_n dX5_lose_10 rfl rfl) <|
  ac_cons (so_inst (ci := 4) (by decide) rfl dX5_lose_11 wd_223 rfl) <|
  ac_cons (so_if_eq dX5_lose_14 (by decide) rfl) <|
  ac_cons (so_aload_n dX5_lose_17 rfl rfl) <|
  ac_cons (so_cast (ci := 4) rfl dX5_lose_18 wd_223 rfl) <|
  ac_cons (so_astore dX5_lose_21 rfl) <|
  ac_cons (so_aload dX5_lose_23 rfl) <|
  ac_cons (so_iload_n dX5_lose_25 rfl rfl) <|
  ac_cons (so_callS (N := M_X5_loseRow) C_X5_loseRow rfl ⟨wd_410, wd_24, dy_X5_loseRow, ⟨by decide, by decide⟩, tb_X5_lose⟩ dX5_lose_26 wd_408 wd_409 rfl) <|
  ac_cons (so_ireturn rfl dX5_lose_29) <|
  ac_cons (so_aload_n dX5_lose_30 rfl rfl) <|
  ac_cons (so_callS (N := M_X5_vectorOf) C_X5_vectorOf rfl ⟨wd_418, wd_24, dy_X5_vectorOf, ⟨by decide, by decide⟩, tb_X5_lose⟩ dX5_lose_31 wd_416 wd_417 rfl) <|
  ac_cons (so_callS (N := M_X5_loseStorage) C_X5_loseStorage rfl ⟨wd_421, wd_24, dy_X5_loseStorage, ⟨by decide, by decide⟩, tb_X5_lose⟩ dX5_lose_34 wd_419 wd_420 rfl) <|
  ac_cons (so_ireturn rfl dX5_lose_37) <| ac_nil
theorem C_X5_lose : ac_Ct yX5_lose M_X5_lose T_X5_lose := ac_meth (by decide +kernel) rfl rfl rfl rfl s_X5_lose
-- X5_resize
abbrev rm_X5_resize : Room := { frames := 10, cells := 11, slots := 328, locals := 10284 }
abbrev M_X5_resize : ac_D := (RX5, "resize", cX5_resize, 4, some FieldType.int, [], rm_X5_resize)
theorem tb_X5_resize : ac_tb RX5 [] := fun q h => (by cases h)
theorem dy_X5_resize : yX5_resize.cls ≠ "java/lang/invoke/MethodHandle" ∧ yX5_resize.cls ≠ "java/lang/invoke/VarHandle" ∧ (parseMethodDescriptor yX5_resize.desc).map (fun d => d.parameters.length) = some 2 := by decide +kernel
def k_X5_resize : List (Nat × ac_op) := [(0, op_iload 1 1),
  (1, op_callS rm_X5_resize [] T_X5_requireRegister rm_X5_requireRegister 1 1 4),
  (4, op_iload 2 5),
  (5, op_push (.int 24) 7),
  (7, op_icmp (fun x y => y < x) 14 10),
  (10, op_push (.int 1) 11),
  (11, op_goto 15),
  (14, op_push (.int 0) 15),
  (15, op_callS rm_X5_resize [] T_X5_requireArgument rm_X5_requireArgument 1 15 18),
  (18, op_aload 0 19),
  (19, op_iload 1 20),
  (20, op_callV rm_X5_resize [] 8 T_X5_itemIn rm_X5_itemIn 1 20 23),
  (23, op_callS rm_X5_resize [] T_X5_vectorOf rm_X5_vectorOf 1 23 26),
  (26, op_astore 3 27),
  (27, op_iload 2 28),
  (28, op_callS rm_X5_resize [] T_X5_requireSize rm_X5_requireSize 1 28 31),
  (31, op_aload 3 32),
  (32, op_callV rm_X5_resize [] 6 T_X3_isLost rm_X3_isLost 0 32 35),
  (35, op_if (fun x => ¬ x = 0) 42 38),
  (38, op_push (.int 1) 39),
  (39, op_goto 43),
  (42, op_push (.int 0) 43),
  (43, op_callS rm_X5_resize [] T_X5_requirePresent rm_X5_requirePresent 1 43 46),
  (46, op_aload 3 47),
  (47, op_iload 2 48),
  (48, op_callV rm_X5_resize [] 6 T_X3_changeLength rm_X3_changeLength 1 48 51),
  (51, op_ireturn rm_X5_resize)]
def T_X5_resize : ac_T := ac_vc k_X5_resize 4
set_option maxRecDepth 100000 in
set_option maxHeartbeats 4000000 in
theorem s_X5_resize : ∀ x ∈ k_X5_resize, ac_So M_X5_resize (fun _ _ _ => False) x.1 x.2 :=
  ac_cons (so_iload_n dX5_resize_0 rfl rfl) <|
  ac_cons (so_callS (N := M_X5_requireRegister) C_X5_requireRegister rfl ⟨wd_158, wd_24, dy_X5_requireRegister, ⟨by decide, by decide⟩, tb_X5_resize⟩ dX5_resize_1 wd_156 wd_157 rfl) <|
  ac_cons (so_iload_n dX5_resize_4 rfl rfl) <|
  ac_cons (so_bipush dX5_resize_5 (by decide +kernel) rfl) <|
  ac_cons (so_icmp_gt dX5_resize_7 (by decide) rfl) <|
  ac_cons (so_iconst dX5_resize_10 (by decide +kernel) rfl) <|
  ac_cons (so_goto dX5_resize_11 (by decide)) <|
  ac_cons (so_iconst dX5_resize_14 (by decide +kernel) rfl) <|
  ac_cons (so_callS (N := M_X5_requireArgument) C_X5_requireArgument rfl ⟨wd_161, wd_24, dy_X5_requireArgument, ⟨by decide, by decide⟩, tb_X5_resize⟩ dX5_resize_15 wd_159 wd_160 rfl) <|
  ac_cons (so_aload_n dX5_resize_18 rfl rfl) <|
  ac_cons (so_iload_n dX5_resize_19 rfl rfl) <|
  ac_cons (so_callV (N := M_X5_itemIn) (ci := 8) C_X5_itemIn rfl ⟨wd_290, wd_24, dy_X5_itemIn, ⟨by decide, by decide⟩, tb_X5_resize⟩ rfl dX5_resize_20 wd_287 wd_289 wd_3 rfl) <|
  ac_cons (so_callS (N := M_X5_vectorOf) C_X5_vectorOf rfl ⟨wd_418, wd_24, dy_X5_vectorOf, ⟨by decide, by decide⟩, tb_X5_resize⟩ dX5_resize_23 wd_416 wd_417 rfl) <|
  ac_cons (so_astore_n dX5_resize_26 rfl rfl) <|
  ac_cons (so_iload_n dX5_resize_27 rfl rfl) <|
  ac_cons (so_callS (N := M_X5_requireSize) C_X5_requireSize rfl ⟨wd_185, wd_24, dy_X5_requireSize, ⟨by decide, by decide⟩, tb_X5_resize⟩ dX5_resize_28 wd_183 wd_184 rfl) <|
  ac_cons (so_aload_n dX5_resize_31 rfl rfl) <|
  ac_cons (so_callV (N := M_X3_isLost) (ci := 6) C_X3_isLost rfl ⟨wd_425, wd_33, dy_X3_isLost, ⟨by decide, by decide⟩, tb_X5_resize⟩ rfl dX5_resize_32 wd_422 wd_423 wd_424 rfl) <|
  ac_cons (so_if_ne dX5_resize_35 (by decide) rfl) <|
  ac_cons (so_iconst dX5_resize_38 (by decide +kernel) rfl) <|
  ac_cons (so_goto dX5_resize_39 (by decide)) <|
  ac_cons (so_iconst dX5_resize_42 (by decide +kernel) rfl) <|
  ac_cons (so_callS (N := M_X5_requirePresent) C_X5_requirePresent rfl ⟨wd_293, wd_24, dy_X5_requirePresent, ⟨by decide, by decide⟩, tb_X5_resize⟩ dX5_resize_43 wd_291 wd_292 rfl) <|
  ac_cons (so_aload_n dX5_resize_46 rfl rfl) <|
  ac_cons (so_iload_n dX5_resize_47 rfl rfl) <|
  ac_cons (so_callV (N := M_X3_changeLength) (ci := 6) C_X3_changeLength rfl ⟨wd_444, wd_33, dy_X3_changeLength, ⟨by decide, by decide⟩, tb_X5_resize⟩ rfl dX5_resize_48 wd_441 wd_442 wd_443 rfl) <|
  ac_cons (so_ireturn rfl dX5_resize_51) <| ac_nil
theorem C_X5_resize : ac_Ct yX5_resize M_X5_resize T_X5_resize := ac_meth (by decide +kernel) rfl rfl rfl rfl s_X5_resize
-- X5_size
abbrev rm_X5_size : Room := { frames := 10, cells := 4, slots := 28, locals := 10284 }
abbrev M_X5_size : ac_D := (RX5, "size", cX5_size, 4, some FieldType.int, [], rm_X5_size)
theorem tb_X5_size : ac_tb RX5 [] := fun q h => (by cases h)
theorem dy_X5_size : yX5_size.cls ≠ "java/lang/invoke/MethodHandle" ∧ yX5_size.cls ≠ "java/lang/invoke/VarHandle" ∧ (parseMethodDescriptor yX5_size.desc).map (fun d => d.parameters.length) = some 1 := by decide +kernel
def k_X5_size : List (Nat × ac_op) := [(0, op_iload 1 1),
  (1, op_callS rm_X5_size [] T_X5_requireRegister rm_X5_requireRegister 1 1 4),
  (4, op_aload 0 5),
  (5, op_iload 1 6),
  (6, op_callV rm_X5_size [] 8 T_X5_itemIn rm_X5_itemIn 1 6 9),
  (9, op_astore 2 10),
  (10, op_aload 2 11),
  (11, op_inst 4 14),
  (14, op_if (fun x => x = 0) 28 17),
  (17, op_aload 2 18),
  (18, op_cast 4 21),
  (21, op_astore 3 22),
  (22, op_aload 3 23),
  (23, op_get 4 0 26),
  (26, op_alen 4 27),
  (27, op_ireturn rm_X5_size),
  (28, op_aload 2 29),
  (29, op_callU rm_X5_size [] [(4, T_X1_ground, rm_X1_ground), (5, T_X1_ground, rm_X1_ground), (6, T_X3_ground, rm_X3_ground), (7, T_X4_ground, rm_X4_ground)] 0 29 32),
  (32, op_astore 3 33),
  (33, op_aload 3 34),
  (34, op_ifnull 41 37),
  (37, op_push (.int 1) 38),
  (38, op_goto 42),
  (41, op_push (.int 0) 42),
  (42, op_callS rm_X5_size [] T_X5_requireSupported rm_X5_requireSupported 1 42 45),
  (45, op_aload 3 46),
  (46, op_callV rm_X5_size [] 6 T_X3_isLost rm_X3_isLost 0 46 49),
  (49, op_if (fun x => ¬ x = 0) 56 52),
  (52, op_push (.int 1) 53),
  (53, op_goto 57),
  (56, op_push (.int 0) 57),
  (57, op_callS rm_X5_size [] T_X5_requirePresent rm_X5_requirePresent 1 57 60),
  (60, op_aload 3 61),
  (61, op_callV rm_X5_size [] 6 T_X3_length rm_X3_length 0 61 64),
  (64, op_aload 2 65),
  (65, op_callU rm_X5_size [] [(4, T_X1_shift, rm_X1_shift), (5, T_X1_shift, rm_X1_shift), (6, T_X1_shift, rm_X1_shift), (7, T_X4_shift, rm_X4_shift)] 0 65 68),
  (68, op_ii (fun x y => x - y) 69),
  (69, op_ireturn rm_X5_size)]
def T_X5_size : ac_T := ac_vc k_X5_size 4
set_option maxRecDepth 100000 in
set_option maxHeartbeats 4000000 in
theorem s_X5_size : ∀ x ∈ k_X5_size, ac_So M_X5_size (fun _ _ _ => False) x.1 x.2 :=
  ac_cons (so_iload_n dX5_size_0 rfl rfl) <|
  ac_cons (so_callS (N := M_X5_requireRegister) C_X5_requireRegister rfl ⟨wd_158, wd_24, dy_X5_requireRegister, ⟨by decide, by decide⟩, tb_X5_size⟩ dX5_size_1 wd_156 wd_157 rfl) <|
  ac_cons (so_aload_n dX5_size_4 rfl rfl) <|
  ac_cons (so_iload_n dX5_size_5 rfl rfl) <|
  ac_cons (so_callV (N := M_X5_itemIn) (ci := 8) C_X5_itemIn rfl ⟨wd_290, wd_24, dy_X5_itemIn, ⟨by decide, by decide⟩, tb_X5_size⟩ rfl dX5_size_6 wd_287 wd_289 wd_3 rfl) <|
  ac_cons (so_astore_n dX5_size_9 rfl rfl) <|
  ac_cons (so_aload_n dX5_size_10 rfl rfl) <|
  ac_cons (so_inst (ci := 4) (by decide) rfl dX5_size_11 wd_223 rfl) <|
  ac_cons (so_if_eq dX5_size_14 (by decide) rfl) <|
  ac_cons (so_aload_n dX5_size_17 rfl rfl) <|
  ac_cons (so_cast (ci := 4) rfl dX5_size_18 wd_223 rfl) <|
  ac_cons (so_astore_n dX5_size_21 rfl rfl) <|
  ac_cons (so_aload_n dX5_size_22 rfl rfl) <|
  ac_cons (so_getN (ci := 4) (f := 0) rfl in_X0 (by decide) dX5_size_23 wd_232 rfl) <|
  ac_cons (so_alen (t := 4) (ty := .array .int) (fun _ => rfl) dX5_size_26 rfl) <|
  ac_cons (so_ireturn rfl dX5_size_27) <|
  ac_cons (so_aload_n dX5_size_28 rfl rfl) <|
  ac_cons (so_callU (M := M_X5_size) (x := ⟨"TypedHall$Item", "ground", "()LTypedHall$VectorItem;"⟩) (ac_cons4 (⟨yX1_ground, M_X1_ground, _, C_X1_ground, rfl, rfl, ⟨wd_305, wd_32, dy_X1_ground, ⟨by decide, by decide⟩, tb_X5_size⟩, rfl, wd_295, wd_297⟩) (⟨yX1_ground, M_X1_ground, _, C_X1_ground, rfl, rfl, ⟨wd_305, wd_32, dy_X1_ground, ⟨by decide, by decide⟩, tb_X5_size⟩, rfl, wd_295, wd_298⟩) (⟨yX3_ground, M_X3_ground, _, C_X3_ground, rfl, rfl, ⟨wd_301, wd_33, dy_X3_ground, ⟨by decide, by decide⟩, tb_X5_size⟩, rfl, wd_300, wd_299⟩) (⟨yX4_ground, M_X4_ground, _, C_X4_ground, rfl, rfl, ⟨wd_304, wd_39, dy_X4_ground, ⟨by decide, by decide⟩, tb_X5_size⟩, rfl, wd_303, wd_302⟩)) (Or.inl ⟨wd_295, _, _, _, wd_305⟩) wd_296 ⟨by decide, by decide, by decide +kernel⟩ dX5_size_29 wd_294 rfl) <|
  ac_cons (so_astore_n dX5_size_32 rfl rfl) <|
  ac_cons (so_aload_n dX5_size_33 rfl rfl) <|
  ac_cons (so_ifnull dX5_size_34 (by decide) rfl) <|
  ac_cons (so_iconst dX5_size_37 (by decide +kernel) rfl) <|
  ac_cons (so_goto dX5_size_38 (by decide)) <|
  ac_cons (so_iconst dX5_size_41 (by decide +kernel) rfl) <|
  ac_cons (so_callS (N := M_X5_requireSupported) C_X5_requireSupported rfl ⟨wd_308, wd_24, dy_X5_requireSupported, ⟨by decide, by decide⟩, tb_X5_size⟩ dX5_size_42 wd_306 wd_307 rfl) <|
  ac_cons (so_aload_n dX5_size_45 rfl rfl) <|
  ac_cons (so_callV (N := M_X3_isLost) (ci := 6) C_X3_isLost rfl ⟨wd_425, wd_33, dy_X3_isLost, ⟨by decide, by decide⟩, tb_X5_size⟩ rfl dX5_size_46 wd_422 wd_423 wd_424 rfl) <|
  ac_cons (so_if_ne dX5_size_49 (by decide) rfl) <|
  ac_cons (so_iconst dX5_size_52 (by decide +kernel) rfl) <|
  ac_cons (so_goto dX5_size_53 (by decide)) <|
  ac_cons (so_iconst dX5_size_56 (by decide +kernel) rfl) <|
  ac_cons (so_callS (N := M_X5_requirePresent) C_X5_requirePresent rfl ⟨wd_293, wd_24, dy_X5_requirePresent, ⟨by decide, by decide⟩, tb_X5_size⟩ dX5_size_57 wd_291 wd_292 rfl) <|
  ac_cons (so_aload_n dX5_size_60 rfl rfl) <|
  ac_cons (so_callV (N := M_X3_length) (ci := 6) C_X3_length rfl ⟨wd_429, wd_33, dy_X3_length, ⟨by decide, by decide⟩, tb_X5_size⟩ rfl dX5_size_61 wd_426 wd_427 wd_428 rfl) <|
  ac_cons (so_aload_n dX5_size_64 rfl rfl) <|
  ac_cons (so_callU (M := M_X5_size) (x := ⟨"TypedHall$Item", "shift", "()I"⟩) (ac_cons4 (⟨yX1_shift, M_X1_shift, _, C_X1_shift, rfl, rfl, ⟨wd_358, wd_32, dy_X1_shift, ⟨by decide, by decide⟩, tb_X5_size⟩, rfl, wd_350, wd_352⟩) (⟨yX1_shift, M_X1_shift, _, C_X1_shift, rfl, rfl, ⟨wd_358, wd_32, dy_X1_shift, ⟨by decide, by decide⟩, tb_X5_size⟩, rfl, wd_350, wd_353⟩) (⟨yX1_shift, M_X1_shift, _, C_X1_shift, rfl, rfl, ⟨wd_358, wd_32, dy_X1_shift, ⟨by decide, by decide⟩, tb_X5_size⟩, rfl, wd_350, wd_354⟩) (⟨yX4_shift, M_X4_shift, _, C_X4_shift, rfl, rfl, ⟨wd_357, wd_39, dy_X4_shift, ⟨by decide, by decide⟩, tb_X5_size⟩, rfl, wd_356, wd_355⟩)) (Or.inl ⟨wd_350, _, _, _, wd_358⟩) wd_351 ⟨by decide, by decide, by decide +kernel⟩ dX5_size_65 wd_349 rfl) <|
  ac_cons (so_isub dX5_size_68 rfl) <|
  ac_cons (so_ireturn rfl dX5_size_69) <| ac_nil
theorem C_X5_size : ac_Ct yX5_size M_X5_size T_X5_size := ac_meth (by decide +kernel) rfl rfl rfl rfl s_X5_size
-- X5_placeOf
abbrev rm_X5_placeOf : Room := { frames := 9, cells := 4, slots := 230, locals := 10262 }
abbrev M_X5_placeOf : ac_D := (RX5, "placeOf", cX5_placeOf, 4, some FieldType.int, [], rm_X5_placeOf)
theorem tb_X5_placeOf : ac_tb RX5 [] := fun q h => (by cases h)
theorem dy_X5_placeOf : yX5_placeOf.cls ≠ "java/lang/invoke/MethodHandle" ∧ yX5_placeOf.cls ≠ "java/lang/invoke/VarHandle" ∧ (parseMethodDescriptor yX5_placeOf.desc).map (fun d => d.parameters.length) = some 2 := by decide +kernel
def k_X5_placeOf : List (Nat × ac_op) := [(0, op_aload 0 1),
  (1, op_callU rm_X5_placeOf [] [(4, T_X1_ground, rm_X1_ground), (5, T_X1_ground, rm_X1_ground), (6, T_X3_ground, rm_X3_ground), (7, T_X4_ground, rm_X4_ground)] 0 1 4),
  (4, op_astore 2 5),
  (5, op_aload 0 6),
  (6, op_callU rm_X5_placeOf [] [(4, T_X1_shift, rm_X1_shift), (5, T_X1_shift, rm_X1_shift), (6, T_X1_shift, rm_X1_shift), (7, T_X4_shift, rm_X4_shift)] 0 6 9),
  (9, op_iload 1 10),
  (10, op_ii (fun x y => x + y) 11),
  (11, op_istore 3 12),
  (12, op_aload 2 13),
  (13, op_callV rm_X5_placeOf [] 6 T_X3_isLost rm_X3_isLost 0 13 16),
  (16, op_if (fun x => ¬ x = 0) 23 19),
  (19, op_push (.int 1) 20),
  (20, op_goto 24),
  (23, op_push (.int 0) 24),
  (24, op_callS rm_X5_placeOf [] T_X5_requirePresent rm_X5_requirePresent 1 24 27),
  (27, op_iload 3 28),
  (28, op_aload 2 29),
  (29, op_callV rm_X5_placeOf [] 6 T_X3_length rm_X3_length 0 29 32),
  (32, op_callS rm_X5_placeOf [] T_X5_requireIndex rm_X5_requireIndex 2 32 35),
  (35, op_iload 3 36),
  (36, op_ireturn rm_X5_placeOf)]
def T_X5_placeOf : ac_T := ac_vc k_X5_placeOf 4
set_option maxRecDepth 100000 in
set_option maxHeartbeats 4000000 in
theorem s_X5_placeOf : ∀ x ∈ k_X5_placeOf, ac_So M_X5_placeOf (fun _ _ _ => False) x.1 x.2 :=
  ac_cons (so_aload_n dX5_placeOf_0 rfl rfl) <|
  ac_cons (so_callU (M := M_X5_placeOf) (x := ⟨"TypedHall$Item", "ground", "()LTypedHall$VectorItem;"⟩) (ac_cons4 (⟨yX1_ground, M_X1_ground, _, C_X1_ground, rfl, rfl, ⟨wd_305, wd_32, dy_X1_ground, ⟨by decide, by decide⟩, tb_X5_placeOf⟩, rfl, wd_295, wd_297⟩) (⟨yX1_ground, M_X1_ground, _, C_X1_ground, rfl, rfl, ⟨wd_305, wd_32, dy_X1_ground, ⟨by decide, by decide⟩, tb_X5_placeOf⟩, rfl, wd_295, wd_298⟩) (⟨yX3_ground, M_X3_ground, _, C_X3_ground, rfl, rfl, ⟨wd_301, wd_33, dy_X3_ground, ⟨by decide, by decide⟩, tb_X5_placeOf⟩, rfl, wd_300, wd_299⟩) (⟨yX4_ground, M_X4_ground, _, C_X4_ground, rfl, rfl, ⟨wd_304, wd_39, dy_X4_ground, ⟨by decide, by decide⟩, tb_X5_placeOf⟩, rfl, wd_303, wd_302⟩)) (Or.inl ⟨wd_295, _, _, _, wd_305⟩) wd_296 ⟨by decide, by decide, by decide +kernel⟩ dX5_placeOf_1 wd_294 rfl) <|
  ac_cons (so_astore_n dX5_placeOf_4 rfl rfl) <|
  ac_cons (so_aload_n dX5_placeOf_5 rfl rfl) <|
  ac_cons (so_callU (M := M_X5_placeOf) (x := ⟨"TypedHall$Item", "shift", "()I"⟩) (ac_cons4 (⟨yX1_shift, M_X1_shift, _, C_X1_shift, rfl, rfl, ⟨wd_358, wd_32, dy_X1_shift, ⟨by decide, by decide⟩, tb_X5_placeOf⟩, rfl, wd_350, wd_352⟩) (⟨yX1_shift, M_X1_shift, _, C_X1_shift, rfl, rfl, ⟨wd_358, wd_32, dy_X1_shift, ⟨by decide, by decide⟩, tb_X5_placeOf⟩, rfl, wd_350, wd_353⟩) (⟨yX1_shift, M_X1_shift, _, C_X1_shift, rfl, rfl, ⟨wd_358, wd_32, dy_X1_shift, ⟨by decide, by decide⟩, tb_X5_placeOf⟩, rfl, wd_350, wd_354⟩) (⟨yX4_shift, M_X4_shift, _, C_X4_shift, rfl, rfl, ⟨wd_357, wd_39, dy_X4_shift, ⟨by decide, by decide⟩, tb_X5_placeOf⟩, rfl, wd_356, wd_355⟩)) (Or.inl ⟨wd_350, _, _, _, wd_358⟩) wd_351 ⟨by decide, by decide, by decide +kernel⟩ dX5_placeOf_6 wd_349 rfl) <|
  ac_cons (so_iload_n dX5_placeOf_9 rfl rfl) <|
  ac_cons (so_iadd dX5_placeOf_10 rfl) <|
  ac_cons (so_istore_n dX5_placeOf_11 rfl rfl) <|
  ac_cons (so_aload_n dX5_placeOf_12 rfl rfl) <|
  ac_cons (so_callV (N := M_X3_isLost) (ci := 6) C_X3_isLost rfl ⟨wd_425, wd_33, dy_X3_isLost, ⟨by decide, by decide⟩, tb_X5_placeOf⟩ rfl dX5_placeOf_13 wd_422 wd_423 wd_424 rfl) <|
  ac_cons (so_if_ne dX5_placeOf_16 (by decide) rfl) <|
  ac_cons (so_iconst dX5_placeOf_19 (by decide +kernel) rfl) <|
  ac_cons (so_goto dX5_placeOf_20 (by decide)) <|
  ac_cons (so_iconst dX5_placeOf_23 (by decide +kernel) rfl) <|
  ac_cons (so_callS (N := M_X5_requirePresent) C_X5_requirePresent rfl ⟨wd_293, wd_24, dy_X5_requirePresent, ⟨by decide, by decide⟩, tb_X5_placeOf⟩ dX5_placeOf_24 wd_291 wd_292 rfl) <|
  ac_cons (so_iload_n dX5_placeOf_27 rfl rfl) <|
  ac_cons (so_aload_n dX5_placeOf_28 rfl rfl) <|
  ac_cons (so_callV (N := M_X3_length) (ci := 6) C_X3_length rfl ⟨wd_429, wd_33, dy_X3_length, ⟨by decide, by decide⟩, tb_X5_placeOf⟩ rfl dX5_placeOf_29 wd_426 wd_427 wd_428 rfl) <|
  ac_cons (so_callS (N := M_X5_requireIndex) C_X5_requireIndex rfl ⟨wd_413, wd_24, dy_X5_requireIndex, ⟨by decide, by decide⟩, tb_X5_placeOf⟩ dX5_placeOf_32 wd_411 wd_412 rfl) <|
  ac_cons (so_iload_n dX5_placeOf_35 rfl rfl) <|
  ac_cons (so_ireturn rfl dX5_placeOf_36) <| ac_nil
theorem C_X5_placeOf : ac_Ct yX5_placeOf M_X5_placeOf T_X5_placeOf := ac_meth (by decide +kernel) rfl rfl rfl rfl s_X5_placeOf
-- X5_takeElement
abbrev rm_X5_takeElement : Room := { frames := 10, cells := 4, slots := 230, locals := 10285 }
abbrev M_X5_takeElement : ac_D := (RX5, "takeElement", cX5_takeElement, 3, some FieldType.long, [], rm_X5_takeElement)
theorem tb_X5_takeElement : ac_tb RX5 [] := fun q h => (by cases h)
theorem dy_X5_takeElement : yX5_takeElement.cls ≠ "java/lang/invoke/MethodHandle" ∧ yX5_takeElement.cls ≠ "java/lang/invoke/VarHandle" ∧ (parseMethodDescriptor yX5_takeElement.desc).map (fun d => d.parameters.length) = some 2 := by decide +kernel
def k_X5_takeElement : List (Nat × ac_op) := [(0, op_aload 0 1),
  (1, op_iload 1 2),
  (2, op_callS rm_X5_takeElement [] T_X5_placeOf rm_X5_placeOf 2 2 5),
  (5, op_istore 2 6),
  (6, op_aload 0 7),
  (7, op_callU rm_X5_takeElement [] [(4, T_X1_ground, rm_X1_ground), (5, T_X1_ground, rm_X1_ground), (6, T_X3_ground, rm_X3_ground), (7, T_X4_ground, rm_X4_ground)] 0 7 10),
  (10, op_get 6 1 13),
  (13, op_iload 2 14),
  (14, op_lald 15),
  (15, op_lreturn rm_X5_takeElement)]
def T_X5_takeElement : ac_T := ac_vc k_X5_takeElement 3
set_option maxRecDepth 100000 in
set_option maxHeartbeats 4000000 in
theorem s_X5_takeElement : ∀ x ∈ k_X5_takeElement, ac_So M_X5_takeElement (fun _ _ _ => False) x.1 x.2 :=
  ac_cons (so_aload_n dX5_takeElement_0 rfl rfl) <|
  ac_cons (so_iload_n dX5_takeElement_1 rfl rfl) <|
  ac_cons (so_callS (N := M_X5_placeOf) C_X5_placeOf rfl ⟨wd_501, wd_24, dy_X5_placeOf, ⟨by decide, by decide⟩, tb_X5_takeElement⟩ dX5_takeElement_2 wd_499 wd_500 rfl) <|
  ac_cons (so_istore_n dX5_takeElement_5 rfl rfl) <|
  ac_cons (so_aload_n dX5_takeElement_6 rfl rfl) <|
  ac_cons (so_callU (M := M_X5_takeElement) (x := ⟨"TypedHall$Item", "ground", "()LTypedHall$VectorItem;"⟩) (ac_cons4 (⟨yX1_ground, M_X1_ground, _, C_X1_ground, rfl, rfl, ⟨wd_305, wd_32, dy_X1_ground, ⟨by decide, by decide⟩, tb_X5_takeElement⟩, rfl, wd_295, wd_297⟩) (⟨yX1_ground, M_X1_ground, _, C_X1_ground, rfl, rfl, ⟨wd_305, wd_32, dy_X1_ground, ⟨by decide, by decide⟩, tb_X5_takeElement⟩, rfl, wd_295, wd_298⟩) (⟨yX3_ground, M_X3_ground, _, C_X3_ground, rfl, rfl, ⟨wd_301, wd_33, dy_X3_ground, ⟨by decide, by decide⟩, tb_X5_takeElement⟩, rfl, wd_300, wd_299⟩) (⟨yX4_ground, M_X4_ground, _, C_X4_ground, rfl, rfl, ⟨wd_304, wd_39, dy_X4_ground, ⟨by decide, by decide⟩, tb_X5_takeElement⟩, rfl, wd_303, wd_302⟩)) (Or.inl ⟨wd_295, _, _, _, wd_305⟩) wd_296 ⟨by decide, by decide, by decide +kernel⟩ dX5_takeElement_7 wd_294 rfl) <|
  ac_cons (so_getN (ci := 6) (f := 1) rfl in_X3 (by decide) dX5_takeElement_10 wd_200 rfl) <|
  ac_cons (so_iload_n dX5_takeElement_13 rfl rfl) <|
  ac_cons (so_lald dX5_takeElement_14 rfl) <|
  ac_cons (so_lreturn rfl dX5_takeElement_15) <| ac_nil
theorem C_X5_takeElement : ac_Ct yX5_takeElement M_X5_takeElement T_X5_takeElement := ac_meth (by decide +kernel) rfl rfl rfl rfl s_X5_takeElement
-- X5_take
abbrev rm_X5_take : Room := { frames := 11, cells := 7, slots := 250, locals := 10307 }
abbrev M_X5_take : ac_D := (RX5, "take", cX5_take, 4, some FieldType.long, [], rm_X5_take)
theorem tb_X5_take : ac_tb RX5 [] := fun q h => (by cases h)
theorem dy_X5_take : yX5_take.cls ≠ "java/lang/invoke/MethodHandle" ∧ yX5_take.cls ≠ "java/lang/invoke/VarHandle" ∧ (parseMethodDescriptor yX5_take.desc).map (fun d => d.parameters.length) = some 2 := by decide +kernel
def k_X5_take : List (Nat × ac_op) := [(0, op_iload 1 1),
  (1, op_callS rm_X5_take [] T_X5_requireRegister rm_X5_requireRegister 1 1 4),
  (4, op_aload 0 5),
  (5, op_iload 1 6),
  (6, op_callV rm_X5_take [] 8 T_X5_itemIn rm_X5_itemIn 1 6 9),
  (9, op_astore 3 10),
  (10, op_aload 3 11),
  (11, op_callU rm_X5_take [] [(4, T_X0_sort, rm_X0_sort), (5, T_X2_sort, rm_X2_sort), (6, T_X3_sort, rm_X3_sort), (7, T_X4_sort, rm_X4_sort)] 0 11 14),
  (14, op_push (.int 7) 16),
  (16, op_icmp (fun x y => y < x) 23 19),
  (19, op_push (.int 1) 20),
  (20, op_goto 24),
  (23, op_push (.int 0) 24),
  (24, op_callS rm_X5_take [] T_X5_requireSupported rm_X5_requireSupported 1 24 27),
  (27, op_aload 3 28),
  (28, op_iload 2 29),
  (29, op_callS rm_X5_take [] T_X5_takeElement rm_X5_takeElement 2 29 32),
  (32, op_lreturn rm_X5_take)]
def T_X5_take : ac_T := ac_vc k_X5_take 4
set_option maxRecDepth 100000 in
set_option maxHeartbeats 4000000 in
theorem s_X5_take : ∀ x ∈ k_X5_take, ac_So M_X5_take (fun _ _ _ => False) x.1 x.2 :=
  ac_cons (so_iload_n dX5_take_0 rfl rfl) <|
  ac_cons (so_callS (N := M_X5_requireRegister) C_X5_requireRegister rfl ⟨wd_158, wd_24, dy_X5_requireRegister, ⟨by decide, by decide⟩, tb_X5_take⟩ dX5_take_1 wd_156 wd_157 rfl) <|
  ac_cons (so_aload_n dX5_take_4 rfl rfl) <|
  ac_cons (so_iload_n dX5_take_5 rfl rfl) <|
  ac_cons (so_callV (N := M_X5_itemIn) (ci := 8) C_X5_itemIn rfl ⟨wd_290, wd_24, dy_X5_itemIn, ⟨by decide, by decide⟩, tb_X5_take⟩ rfl dX5_take_6 wd_287 wd_289 wd_3 rfl) <|
  ac_cons (so_astore_n dX5_take_9 rfl rfl) <|
  ac_cons (so_aload_n dX5_take_10 rfl rfl) <|
  ac_cons (so_callU (M := M_X5_take) (x := ⟨"TypedHall$Item", "sort", "()I"⟩) (ac_cons4 (⟨yX0_sort, M_X0_sort, _, C_X0_sort, rfl, rfl, ⟨wd_486, wd_34, dy_X0_sort, ⟨by decide, by decide⟩, tb_X5_take⟩, rfl, wd_485, wd_484⟩) (⟨yX2_sort, M_X2_sort, _, C_X2_sort, rfl, rfl, ⟨wd_489, wd_35, dy_X2_sort, ⟨by decide, by decide⟩, tb_X5_take⟩, rfl, wd_488, wd_487⟩) (⟨yX3_sort, M_X3_sort, _, C_X3_sort, rfl, rfl, ⟨wd_492, wd_33, dy_X3_sort, ⟨by decide, by decide⟩, tb_X5_take⟩, rfl, wd_491, wd_490⟩) (⟨yX4_sort, M_X4_sort, _, C_X4_sort, rfl, rfl, ⟨wd_495, wd_39, dy_X4_sort, ⟨by decide, by decide⟩, tb_X5_take⟩, rfl, wd_494, wd_493⟩)) (Or.inr wd_482) wd_483 ⟨by decide, by decide, by decide +kernel⟩ dX5_take_11 wd_481 rfl) <|
  ac_cons (so_bipush dX5_take_14 (by decide +kernel) rfl) <|
  ac_cons (so_icmp_gt dX5_take_16 (by decide) rfl) <|
  ac_cons (so_iconst dX5_take_19 (by decide +kernel) rfl) <|
  ac_cons (so_goto dX5_take_20 (by decide)) <|
  ac_cons (so_iconst dX5_take_23 (by decide +kernel) rfl) <|
  ac_cons (so_callS (N := M_X5_requireSupported) C_X5_requireSupported rfl ⟨wd_308, wd_24, dy_X5_requireSupported, ⟨by decide, by decide⟩, tb_X5_take⟩ dX5_take_24 wd_306 wd_307 rfl) <|
  ac_cons (so_aload_n dX5_take_27 rfl rfl) <|
  ac_cons (so_iload_n dX5_take_28 rfl rfl) <|
  ac_cons (so_callS (N := M_X5_takeElement) C_X5_takeElement rfl ⟨wd_498, wd_24, dy_X5_takeElement, ⟨by decide, by decide⟩, tb_X5_take⟩ dX5_take_29 wd_496 wd_497 rfl) <|
  ac_cons (so_lreturn rfl dX5_take_32) <| ac_nil
theorem C_X5_take : ac_Ct yX5_take M_X5_take T_X5_take := ac_meth (by decide +kernel) rfl rfl rfl rfl s_X5_take
-- X5_fitted
abbrev rm_X5_fitted : Room := { frames := 0, cells := 0, slots := 0, locals := 0 }
abbrev M_X5_fitted : ac_D := (RX5, "fitted", cX5_fitted, 3, some FieldType.long, [], rm_X5_fitted)
theorem tb_X5_fitted : ac_tb RX5 [] := fun q h => (by cases h)
theorem dy_X5_fitted : yX5_fitted.cls ≠ "java/lang/invoke/MethodHandle" ∧ yX5_fitted.cls ≠ "java/lang/invoke/VarHandle" ∧ (parseMethodDescriptor yX5_fitted.desc).map (fun d => d.parameters.length) = some 2 := by decide +kernel
def k_X5_fitted : List (Nat × ac_op) := [(0, op_iload 0 1),
  (1, op_switch 87 [48, 60, 65, 70, 75, 87, 79, 83]),
  (48, op_lload 1 49),
  (49, op_push (.long 0) 50),
  (50, op_lcmp 51),
  (51, op_if (fun x => x = 0) 58 54),
  (54, op_push (.long 1) 55),
  (55, op_goto 59),
  (58, op_push (.long 0) 59),
  (59, op_lreturn rm_X5_fitted),
  (60, op_lload 1 61),
  (61, op_l (fun x => .int x.toInt32) 62),
  (62, op_i (fun x => .int x.toInt8.toInt32) 63),
  (63, op_i (fun x => .long x.toInt64) 64),
  (64, op_lreturn rm_X5_fitted),
  (65, op_lload 1 66),
  (66, op_l (fun x => .int x.toInt32) 67),
  (67, op_i (fun x => .int x.toInt16.toInt32) 68),
  (68, op_i (fun x => .long x.toInt64) 69),
  (69, op_lreturn rm_X5_fitted),
  (70, op_lload 1 71),
  (71, op_l (fun x => .int x.toInt32) 72),
  (72, op_i (fun x => .int (x.toUInt32 % 65536).toInt32) 73),
  (73, op_i (fun x => .long x.toInt64) 74),
  (74, op_lreturn rm_X5_fitted),
  (75, op_lload 1 76),
  (76, op_l (fun x => .int x.toInt32) 77),
  (77, op_i (fun x => .long x.toInt64) 78),
  (78, op_lreturn rm_X5_fitted),
  (79, op_lload 1 80),
  (80, op_l (fun x => .float (FP.l2f x)) 81),
  (81, op_f2l 82),
  (82, op_lreturn rm_X5_fitted),
  (83, op_lload 1 84),
  (84, op_l (fun x => .double (FP.l2d x)) 85),
  (85, op_d2l 86),
  (86, op_lreturn rm_X5_fitted),
  (87, op_lload 1 88),
  (88, op_lreturn rm_X5_fitted)]
def T_X5_fitted : ac_T := ac_vc k_X5_fitted 3
set_option maxRecDepth 100000 in
set_option maxHeartbeats 4000000 in
theorem s_X5_fitted : ∀ x ∈ k_X5_fitted, ac_So M_X5_fitted (fun _ _ _ => False) x.1 x.2 :=
  ac_cons (so_iload_n dX5_fitted_0 rfl rfl) <|
  ac_cons (so_switch dX5_fitted_1 (by decide) (by decide) (by decide) (by decide)) <|
  ac_cons (so_lload_n dX5_fitted_48 rfl rfl) <|
  ac_cons (so_lconst dX5_fitted_49 (by decide +kernel) rfl) <|
  ac_cons (so_lcmp dX5_fitted_50 rfl) <|
  ac_cons (so_if_eq dX5_fitted_51 (by decide) rfl) <|
  ac_cons (so_lconst dX5_fitted_54 (by decide +kernel) rfl) <|
  ac_cons (so_goto dX5_fitted_55 (by decide)) <|
  ac_cons (so_lconst dX5_fitted_58 (by decide +kernel) rfl) <|
  ac_cons (so_lreturn rfl dX5_fitted_59) <|
  ac_cons (so_lload_n dX5_fitted_60 rfl rfl) <|
  ac_cons (so_l2i dX5_fitted_61 rfl) <|
  ac_cons (so_i2b dX5_fitted_62 rfl) <|
  ac_cons (so_i2l dX5_fitted_63 rfl) <|
  ac_cons (so_lreturn rfl dX5_fitted_64) <|
  ac_cons (so_lload_n dX5_fitted_65 rfl rfl) <|
  ac_cons (so_l2i dX5_fitted_66 rfl) <|
  ac_cons (so_i2s dX5_fitted_67 rfl) <|
  ac_cons (so_i2l dX5_fitted_68 rfl) <|
  ac_cons (so_lreturn rfl dX5_fitted_69) <|
  ac_cons (so_lload_n dX5_fitted_70 rfl rfl) <|
  ac_cons (so_l2i dX5_fitted_71 rfl) <|
  ac_cons (so_i2c dX5_fitted_72 rfl) <|
  ac_cons (so_i2l dX5_fitted_73 rfl) <|
  ac_cons (so_lreturn rfl dX5_fitted_74) <|
  ac_cons (so_lload_n dX5_fitted_75 rfl rfl) <|
  ac_cons (so_l2i dX5_fitted_76 rfl) <|
  ac_cons (so_i2l dX5_fitted_77 rfl) <|
  ac_cons (so_lreturn rfl dX5_fitted_78) <|
  ac_cons (so_lload_n dX5_fitted_79 rfl rfl) <|
  ac_cons (so_l2f dX5_fitted_80 rfl) <|
  ac_cons (so_f2l dX5_fitted_81 rfl) <|
  ac_cons (so_lreturn rfl dX5_fitted_82) <|
  ac_cons (so_lload_n dX5_fitted_83 rfl rfl) <|
  ac_cons (so_l2d dX5_fitted_84 rfl) <|
  ac_cons (so_d2l dX5_fitted_85 rfl) <|
  ac_cons (so_lreturn rfl dX5_fitted_86) <|
  ac_cons (so_lload_n dX5_fitted_87 rfl rfl) <|
  ac_cons (so_lreturn rfl dX5_fitted_88) <| ac_nil
theorem C_X5_fitted : ac_Ct yX5_fitted M_X5_fitted T_X5_fitted := ac_meth (by decide +kernel) rfl rfl rfl rfl s_X5_fitted
-- X5_putElement
abbrev rm_X5_putElement : Room := { frames := 10, cells := 4, slots := 230, locals := 10285 }
abbrev M_X5_putElement : ac_D := (RX5, "putElement", cX5_putElement, 6, some FieldType.long, [], rm_X5_putElement)
theorem tb_X5_putElement : ac_tb RX5 [] := fun q h => (by cases h)
theorem dy_X5_putElement : yX5_putElement.cls ≠ "java/lang/invoke/MethodHandle" ∧ yX5_putElement.cls ≠ "java/lang/invoke/VarHandle" ∧ (parseMethodDescriptor yX5_putElement.desc).map (fun d => d.parameters.length) = some 3 := by decide +kernel
def k_X5_putElement : List (Nat × ac_op) := [(0, op_aload 0 1),
  (1, op_iload 1 2),
  (2, op_callS rm_X5_putElement [] T_X5_placeOf rm_X5_placeOf 2 2 5),
  (5, op_istore 4 7),
  (7, op_aload 0 8),
  (8, op_callU rm_X5_putElement [] [(4, T_X1_ground, rm_X1_ground), (5, T_X1_ground, rm_X1_ground), (6, T_X3_ground, rm_X3_ground), (7, T_X4_ground, rm_X4_ground)] 0 8 11),
  (11, op_astore 5 13),
  (13, op_aload 5 15),
  (15, op_get 6 1 18),
  (18, op_iload 4 20),
  (20, op_aload 5 22),
  (22, op_get 6 0 25),
  (25, op_lload 2 26),
  (26, op_callS rm_X5_putElement [] T_X5_fitted rm_X5_fitted 2 26 29),
  (29, op_last 30),
  (30, op_aload 5 32),
  (32, op_get 6 1 35),
  (35, op_iload 4 37),
  (37, op_lald 38),
  (38, op_lreturn rm_X5_putElement)]
def T_X5_putElement : ac_T := ac_vc k_X5_putElement 6
set_option maxRecDepth 100000 in
set_option maxHeartbeats 4000000 in
theorem s_X5_putElement : ∀ x ∈ k_X5_putElement, ac_So M_X5_putElement (fun _ _ _ => False) x.1 x.2 :=
  ac_cons (so_aload_n dX5_putElement_0 rfl rfl) <|
  ac_cons (so_iload_n dX5_putElement_1 rfl rfl) <|
  ac_cons (so_callS (N := M_X5_placeOf) C_X5_placeOf rfl ⟨wd_501, wd_24, dy_X5_placeOf, ⟨by decide, by decide⟩, tb_X5_putElement⟩ dX5_putElement_2 wd_499 wd_500 rfl) <|
  ac_cons (so_istore dX5_putElement_5 rfl) <|
  ac_cons (so_aload_n dX5_putElement_7 rfl rfl) <|
  ac_cons (so_callU (M := M_X5_putElement) (x := ⟨"TypedHall$Item", "ground", "()LTypedHall$VectorItem;"⟩) (ac_cons4 (⟨yX1_ground, M_X1_ground, _, C_X1_ground, rfl, rfl, ⟨wd_305, wd_32, dy_X1_ground, ⟨by decide, by decide⟩, tb_X5_putElement⟩, rfl, wd_295, wd_297⟩) (⟨yX1_ground, M_X1_ground, _, C_X1_ground, rfl, rfl, ⟨wd_305, wd_32, dy_X1_ground, ⟨by decide, by decide⟩, tb_X5_putElement⟩, rfl, wd_295, wd_298⟩) (⟨yX3_ground, M_X3_ground, _, C_X3_ground, rfl, rfl, ⟨wd_301, wd_33, dy_X3_ground, ⟨by decide, by decide⟩, tb_X5_putElement⟩, rfl, wd_300, wd_299⟩) (⟨yX4_ground, M_X4_ground, _, C_X4_ground, rfl, rfl, ⟨wd_304, wd_39, dy_X4_ground, ⟨by decide, by decide⟩, tb_X5_putElement⟩, rfl, wd_303, wd_302⟩)) (Or.inl ⟨wd_295, _, _, _, wd_305⟩) wd_296 ⟨by decide, by decide, by decide +kernel⟩ dX5_putElement_8 wd_294 rfl) <|
  ac_cons (so_astore dX5_putElement_11 rfl) <|
  ac_cons (so_aload dX5_putElement_13 rfl) <|
  ac_cons (so_getN (ci := 6) (f := 1) rfl in_X3 (by decide) dX5_putElement_15 wd_200 rfl) <|
  ac_cons (so_iload dX5_putElement_18 rfl) <|
  ac_cons (so_aload dX5_putElement_20 rfl) <|
  ac_cons (so_getN (ci := 6) (f := 0) rfl in_X3 (by decide) dX5_putElement_22 wd_198 rfl) <|
  ac_cons (so_lload_n dX5_putElement_25 rfl rfl) <|
  ac_cons (so_callS (N := M_X5_fitted) C_X5_fitted rfl ⟨wd_514, wd_24, dy_X5_fitted, ⟨by decide, by decide⟩, tb_X5_putElement⟩ dX5_putElement_26 wd_512 wd_513 rfl) <|
  ac_cons (so_last dX5_putElement_29 rfl) <|
  ac_cons (so_aload dX5_putElement_30 rfl) <|
  ac_cons (so_getN (ci := 6) (f := 1) rfl in_X3 (by decide) dX5_putElement_32 wd_200 rfl) <|
  ac_cons (so_iload dX5_putElement_35 rfl) <|
  ac_cons (so_lald dX5_putElement_37 rfl) <|
  ac_cons (so_lreturn rfl dX5_putElement_38) <| ac_nil
theorem C_X5_putElement : ac_Ct yX5_putElement M_X5_putElement T_X5_putElement := ac_meth (by decide +kernel) rfl rfl rfl rfl s_X5_putElement
-- X5_put
abbrev rm_X5_put : Room := { frames := 11, cells := 7, slots := 250, locals := 10310 }
abbrev M_X5_put : ac_D := (RX5, "put", cX5_put, 6, some FieldType.long, [], rm_X5_put)
theorem tb_X5_put : ac_tb RX5 [] := fun q h => (by cases h)
theorem dy_X5_put : yX5_put.cls ≠ "java/lang/invoke/MethodHandle" ∧ yX5_put.cls ≠ "java/lang/invoke/VarHandle" ∧ (parseMethodDescriptor yX5_put.desc).map (fun d => d.parameters.length) = some 3 := by decide +kernel
def k_X5_put : List (Nat × ac_op) := [(0, op_iload 1 1),
  (1, op_callS rm_X5_put [] T_X5_requireRegister rm_X5_requireRegister 1 1 4),
  (4, op_aload 0 5),
  (5, op_iload 1 6),
  (6, op_callV rm_X5_put [] 8 T_X5_itemIn rm_X5_itemIn 1 6 9),
  (9, op_astore 5 11),
  (11, op_aload 5 13),
  (13, op_callU rm_X5_put [] [(4, T_X0_sort, rm_X0_sort), (5, T_X2_sort, rm_X2_sort), (6, T_X3_sort, rm_X3_sort), (7, T_X4_sort, rm_X4_sort)] 0 13 16),
  (16, op_push (.int 7) 18),
  (18, op_icmp (fun x y => y < x) 25 21),
  (21, op_push (.int 1) 22),
  (22, op_goto 26),
  (25, op_push (.int 0) 26),
  (26, op_callS rm_X5_put [] T_X5_requireSupported rm_X5_requireSupported 1 26 29),
  (29, op_aload 5 31),
  (31, op_iload 2 32),
  (32, op_lload 3 33),
  (33, op_callS rm_X5_put [] T_X5_putElement rm_X5_putElement 3 33 36),
  (36, op_lreturn rm_X5_put)]
def T_X5_put : ac_T := ac_vc k_X5_put 6
set_option maxRecDepth 100000 in
set_option maxHeartbeats 4000000 in
theorem s_X5_put : ∀ x ∈ k_X5_put, ac_So M_X5_put (fun _ _ _ => False) x.1 x.2 :=
  ac_cons (so_iload_n dX5_put_0 rfl rfl) <|
  ac_cons (so_callS (N := M_X5_requireRegister) C_X5_requireRegister rfl ⟨wd_158, wd_24, dy_X5_requireRegister, ⟨by decide, by decide⟩, tb_X5_put⟩ dX5_put_1 wd_156 wd_157 rfl) <|
  ac_cons (so_aload_n dX5_put_4 rfl rfl) <|
  ac_cons (so_iload_n dX5_put_5 rfl rfl) <|
  ac_cons (so_callV (N := M_X5_itemIn) (ci := 8) C_X5_itemIn rfl ⟨wd_290, wd_24, dy_X5_itemIn, ⟨by decide, by decide⟩, tb_X5_put⟩ rfl dX5_put_6 wd_287 wd_289 wd_3 rfl) <|
  ac_cons (so_astore dX5_put_9 rfl) <|
  ac_cons (so_aload dX5_put_11 rfl) <|
  ac_cons (so_callU (M := M_X5_put) (x := ⟨"TypedHall$Item", "sort", "()I"⟩) (ac_cons4 (⟨yX0_sort, M_X0_sort, _, C_X0_sort, rfl, rfl, ⟨wd_486, wd_34, dy_X0_sort, ⟨by decide, by decide⟩, tb_X5_put⟩, rfl, wd_485, wd_484⟩) (⟨yX2_sort, M_X2_sort, _, C_X2_sort, rfl, rfl, ⟨wd_489, wd_35, dy_X2_sort, ⟨by decide, by decide⟩, tb_X5_put⟩, rfl, wd_488, wd_487⟩) (⟨yX3_sort, M_X3_sort, _, C_X3_sort, rfl, rfl, ⟨wd_492, wd_33, dy_X3_sort, ⟨by decide, by decide⟩, tb_X5_put⟩, rfl, wd_491, wd_490⟩) (⟨yX4_sort, M_X4_sort, _, C_X4_sort, rfl, rfl, ⟨wd_495, wd_39, dy_X4_sort, ⟨by decide, by decide⟩, tb_X5_put⟩, rfl, wd_494, wd_493⟩)) (Or.inr wd_482) wd_483 ⟨by decide, by decide, by decide +kernel⟩ dX5_put_13 wd_481 rfl) <|
  ac_cons (so_bipush dX5_put_16 (by decide +kernel) rfl) <|
  ac_cons (so_icmp_gt dX5_put_18 (by decide) rfl) <|
  ac_cons (so_iconst dX5_put_21 (by decide +kernel) rfl) <|
  ac_cons (so_goto dX5_put_22 (by decide)) <|
  ac_cons (so_iconst dX5_put_25 (by decide +kernel) rfl) <|
  ac_cons (so_callS (N := M_X5_requireSupported) C_X5_requireSupported rfl ⟨wd_308, wd_24, dy_X5_requireSupported, ⟨by decide, by decide⟩, tb_X5_put⟩ dX5_put_26 wd_306 wd_307 rfl) <|
  ac_cons (so_aload dX5_put_29 rfl) <|
  ac_cons (so_iload_n dX5_put_31 rfl rfl) <|
  ac_cons (so_lload_n dX5_put_32 rfl rfl) <|
  ac_cons (so_callS (N := M_X5_putElement) C_X5_putElement rfl ⟨wd_511, wd_24, dy_X5_putElement, ⟨by decide, by decide⟩, tb_X5_put⟩ dX5_put_33 wd_509 wd_510 rfl) <|
  ac_cons (so_lreturn rfl dX5_put_36) <| ac_nil
theorem C_X5_put : ac_Ct yX5_put M_X5_put T_X5_put := ac_meth (by decide +kernel) rfl rfl rfl rfl s_X5_put
-- X5_gridIn
abbrev rm_X5_gridIn : Room := { frames := 9, cells := 2, slots := 14, locals := 10262 }
abbrev M_X5_gridIn : ac_D := (RX5, "gridIn", cX5_gridIn, 5, some (FieldType.object "TypedHall$GridItem"), [], rm_X5_gridIn)
theorem tb_X5_gridIn : ac_tb RX5 [] := fun q h => (by cases h)
theorem dy_X5_gridIn : yX5_gridIn.cls ≠ "java/lang/invoke/MethodHandle" ∧ yX5_gridIn.cls ≠ "java/lang/invoke/VarHandle" ∧ (parseMethodDescriptor yX5_gridIn.desc).map (fun d => d.parameters.length) = some 1 := by decide +kernel
def k_X5_gridIn : List (Nat × ac_op) := [(0, op_aload 0 1),
  (1, op_get 8 0 4),
  (4, op_iload 1 5),
  (5, op_aald 3 6),
  (6, op_astore 2 7),
  (7, op_aload 2 8),
  (8, op_inst 4 11),
  (11, op_if (fun x => x = 0) 25 14),
  (14, op_aload 2 15),
  (15, op_cast 4 18),
  (18, op_astore 4 20),
  (20, op_aload 4 22),
  (22, op_goto 26),
  (25, op_push .null 26),
  (26, op_astore 3 27),
  (27, op_aload 2 28),
  (28, op_ifnull 35 31),
  (31, op_aload 3 32),
  (32, op_ifnull 39 35),
  (35, op_push (.int 1) 36),
  (36, op_goto 40),
  (39, op_push (.int 0) 40),
  (40, op_callS rm_X5_gridIn [] T_X5_requireSupported rm_X5_requireSupported 1 40 43),
  (43, op_aload 3 44),
  (44, op_ifnull 51 47),
  (47, op_push (.int 1) 48),
  (48, op_goto 52),
  (51, op_push (.int 0) 52),
  (52, op_callS rm_X5_gridIn [] T_X5_requirePresent rm_X5_requirePresent 1 52 55),
  (55, op_aload 3 56),
  (56, op_areturn rm_X5_gridIn)]
def T_X5_gridIn : ac_T := ac_vc k_X5_gridIn 5
set_option maxRecDepth 100000 in
set_option maxHeartbeats 4000000 in
theorem s_X5_gridIn : ∀ x ∈ k_X5_gridIn, ac_So M_X5_gridIn (fun _ _ _ => False) x.1 x.2 :=
  ac_cons (so_aload_n dX5_gridIn_0 rfl rfl) <|
  ac_cons (so_get (ci := 8) (f := 0) rfl in_X5 (by decide) dX5_gridIn_1 wd_56 rfl) <|
  ac_cons (so_iload_n dX5_gridIn_4 rfl rfl) <|
  ac_cons (so_aald3 dX5_gridIn_5 rfl) <|
  ac_cons (so_astore_n dX5_gridIn_6 rfl rfl) <|
  ac_cons (so_aload_n dX5_gridIn_7 rfl rfl) <|
  ac_cons (so_inst (ci := 4) (by decide) rfl dX5_gridIn_8 wd_223 rfl) <|
  ac_cons (so_if_eq dX5_gridIn_11 (by decide) rfl) <|
  ac_cons (so_aload_n dX5_gridIn_14 rfl rfl) <|
  ac_cons (so_cast (ci := 4) rfl dX5_gridIn_15 wd_223 rfl) <|
  ac_cons (so_astore dX5_gridIn_18 rfl) <|
  ac_cons (so_aload dX5_gridIn_20 rfl) <|
  ac_cons (so_goto dX5_gridIn_22 (by decide)) <|
  ac_cons (so_null dX5_gridIn_25 rfl) <|
  ac_cons (so_astore_n dX5_gridIn_26 rfl rfl) <|
  ac_cons (so_aload_n dX5_gridIn_27 rfl rfl) <|
  ac_cons (so_ifnull dX5_gridIn_28 (by decide) rfl) <|
  ac_cons (so_aload_n dX5_gridIn_31 rfl rfl) <|
  ac_cons (so_ifnull dX5_gridIn_32 (by decide) rfl) <|
  ac_cons (so_iconst dX5_gridIn_35 (by decide +kernel) rfl) <|
  ac_cons (so_goto dX5_gridIn_36 (by decide)) <|
  ac_cons (so_iconst dX5_gridIn_39 (by decide +kernel) rfl) <|
  ac_cons (so_callS (N := M_X5_requireSupported) C_X5_requireSupported rfl ⟨wd_308, wd_24, dy_X5_requireSupported, ⟨by decide, by decide⟩, tb_X5_gridIn⟩ dX5_gridIn_40 wd_306 wd_307 rfl) <|
  ac_cons (so_aload_n dX5_gridIn_43 rfl rfl) <|
  ac_cons (so_ifnull dX5_gridIn_44 (by decide) rfl) <|
  ac_cons (so_iconst dX5_gridIn_47 (by decide +kernel) rfl) <|
  ac_cons (so_goto dX5_gridIn_48 (by decide)) <|
  ac_cons (so_iconst dX5_gridIn_51 (by decide +kernel) rfl) <|
  ac_cons (so_callS (N := M_X5_requirePresent) C_X5_requirePresent rfl ⟨wd_293, wd_24, dy_X5_requirePresent, ⟨by decide, by decide⟩, tb_X5_gridIn⟩ dX5_gridIn_52 wd_291 wd_292 rfl) <|
  ac_cons (so_aload_n dX5_gridIn_55 rfl rfl) <|
  ac_cons (so_areturn rfl (by first | exact Or.inl ⟨_, rfl⟩ | exact Or.inr ⟨_, rfl⟩) dX5_gridIn_56) <| ac_nil
theorem C_X5_gridIn : ac_Ct yX5_gridIn M_X5_gridIn T_X5_gridIn := ac_meth (by decide +kernel) rfl rfl rfl rfl s_X5_gridIn
-- X5_requireCell
abbrev rm_X5_requireCell : Room := { frames := 9, cells := 4, slots := 230, locals := 10262 }
abbrev M_X5_requireCell : ac_D := (RX5, "requireCell", cX5_requireCell, 2, none, [], rm_X5_requireCell)
theorem tb_X5_requireCell : ac_tb RX5 [] := fun q h => (by cases h)
theorem dy_X5_requireCell : yX5_requireCell.cls ≠ "java/lang/invoke/MethodHandle" ∧ yX5_requireCell.cls ≠ "java/lang/invoke/VarHandle" ∧ (parseMethodDescriptor yX5_requireCell.desc).map (fun d => d.parameters.length) = some 2 := by decide +kernel
def k_X5_requireCell : List (Nat × ac_op) := [(0, op_aload 0 1),
  (1, op_ifnull 8 4),
  (4, op_push (.int 1) 5),
  (5, op_goto 9),
  (8, op_push (.int 0) 9),
  (9, op_callS rm_X5_requireCell [] T_X5_requirePresent rm_X5_requirePresent 1 9 12),
  (12, op_iload 1 13),
  (13, op_aload 0 14),
  (14, op_alen 0 15),
  (15, op_callS rm_X5_requireCell [] T_X5_requireIndex rm_X5_requireIndex 2 15 18),
  (18, op_return rm_X5_requireCell)]
def T_X5_requireCell : ac_T := ac_vc k_X5_requireCell 2
set_option maxRecDepth 100000 in
set_option maxHeartbeats 4000000 in
theorem s_X5_requireCell : ∀ x ∈ k_X5_requireCell, ac_So M_X5_requireCell (fun _ _ _ => False) x.1 x.2 :=
  ac_cons (so_aload_n dX5_requireCell_0 rfl rfl) <|
  ac_cons (so_ifnull dX5_requireCell_1 (by decide) rfl) <|
  ac_cons (so_iconst dX5_requireCell_4 (by decide +kernel) rfl) <|
  ac_cons (so_goto dX5_requireCell_5 (by decide)) <|
  ac_cons (so_iconst dX5_requireCell_8 (by decide +kernel) rfl) <|
  ac_cons (so_callS (N := M_X5_requirePresent) C_X5_requirePresent rfl ⟨wd_293, wd_24, dy_X5_requirePresent, ⟨by decide, by decide⟩, tb_X5_requireCell⟩ dX5_requireCell_9 wd_291 wd_292 rfl) <|
  ac_cons (so_iload_n dX5_requireCell_12 rfl rfl) <|
  ac_cons (so_aload_n dX5_requireCell_13 rfl rfl) <|
  ac_cons (so_alen (t := 0) (ty := .int) (fun _ => rfl) dX5_requireCell_14 rfl) <|
  ac_cons (so_callS (N := M_X5_requireIndex) C_X5_requireIndex rfl ⟨wd_413, wd_24, dy_X5_requireIndex, ⟨by decide, by decide⟩, tb_X5_requireCell⟩ dX5_requireCell_15 wd_411 wd_412 rfl) <|
  ac_cons (so_return rfl dX5_requireCell_18) <| ac_nil
theorem C_X5_requireCell : ac_Ct yX5_requireCell M_X5_requireCell T_X5_requireCell := ac_meth (by decide +kernel) rfl rfl rfl rfl s_X5_requireCell
-- X5_cell
abbrev rm_X5_cell : Room := { frames := 10, cells := 10, slots := 472, locals := 10286 }
abbrev M_X5_cell : ac_D := (RX5, "cell", cX5_cell, 5, some FieldType.int, [], rm_X5_cell)
theorem tb_X5_cell : ac_tb RX5 [] := fun q h => (by cases h)
theorem dy_X5_cell : yX5_cell.cls ≠ "java/lang/invoke/MethodHandle" ∧ yX5_cell.cls ≠ "java/lang/invoke/VarHandle" ∧ (parseMethodDescriptor yX5_cell.desc).map (fun d => d.parameters.length) = some 3 := by decide +kernel
def k_X5_cell : List (Nat × ac_op) := [(0, op_iload 1 1),
  (1, op_callS rm_X5_cell [] T_X5_requireRegister rm_X5_requireRegister 1 1 4),
  (4, op_aload 0 5),
  (5, op_iload 1 6),
  (6, op_callV rm_X5_cell [] 8 T_X5_gridIn rm_X5_gridIn 1 6 9),
  (9, op_astore 4 11),
  (11, op_iload 2 12),
  (12, op_aload 4 14),
  (14, op_get 4 0 17),
  (17, op_alen 4 18),
  (18, op_callS rm_X5_cell [] T_X5_requireIndex rm_X5_requireIndex 2 18 21),
  (21, op_aload 4 23),
  (23, op_get 4 0 26),
  (26, op_iload 2 27),
  (27, op_aald 4 28),
  (28, op_iload 3 29),
  (29, op_callS rm_X5_cell [] T_X5_requireCell rm_X5_requireCell 2 29 32),
  (32, op_aload 4 34),
  (34, op_get 4 0 37),
  (37, op_iload 2 38),
  (38, op_aald 4 39),
  (39, op_iload 3 40),
  (40, op_iald 41),
  (41, op_ireturn rm_X5_cell)]
def T_X5_cell : ac_T := ac_vc k_X5_cell 5
set_option maxRecDepth 100000 in
set_option maxHeartbeats 4000000 in
theorem s_X5_cell : ∀ x ∈ k_X5_cell, ac_So M_X5_cell (fun _ _ _ => False) x.1 x.2 :=
  ac_cons (so_iload_n dX5_cell_0 rfl rfl) <|
  ac_cons (so_callS (N := M_X5_requireRegister) C_X5_requireRegister rfl ⟨wd_158, wd_24, dy_X5_requireRegister, ⟨by decide, by decide⟩, tb_X5_cell⟩ dX5_cell_1 wd_156 wd_157 rfl) <|
  ac_cons (so_aload_n dX5_cell_4 rfl rfl) <|
  ac_cons (so_iload_n dX5_cell_5 rfl rfl) <|
  ac_cons (so_callV (N := M_X5_gridIn) (ci := 8) C_X5_gridIn rfl ⟨wd_525, wd_24, dy_X5_gridIn, ⟨by decide, by decide⟩, tb_X5_cell⟩ rfl dX5_cell_6 wd_522 wd_524 wd_5 rfl) <|
  ac_cons (so_astore dX5_cell_9 rfl) <|
  ac_cons (so_iload_n dX5_cell_11 rfl rfl) <|
  ac_cons (so_aload dX5_cell_12 rfl) <|
  ac_cons (so_getN (ci := 4) (f := 0) rfl in_X0 (by decide) dX5_cell_14 wd_232 rfl) <|
  ac_cons (so_alen (t := 4) (ty := .array .int) (fun _ => rfl) dX5_cell_17 rfl) <|
  ac_cons (so_callS (N := M_X5_requireIndex) C_X5_requireIndex rfl ⟨wd_413, wd_24, dy_X5_requireIndex, ⟨by decide, by decide⟩, tb_X5_cell⟩ dX5_cell_18 wd_411 wd_412 rfl) <|
  ac_cons (so_aload dX5_cell_21 rfl) <|
  ac_cons (so_getN (ci := 4) (f := 0) rfl in_X0 (by decide) dX5_cell_23 wd_232 rfl) <|
  ac_cons (so_iload_n dX5_cell_26 rfl rfl) <|
  ac_cons (so_aald4 dX5_cell_27 rfl) <|
  ac_cons (so_iload_n dX5_cell_28 rfl rfl) <|
  ac_cons (so_callS (N := M_X5_requireCell) C_X5_requireCell rfl ⟨wd_528, wd_24, dy_X5_requireCell, ⟨by decide, by decide⟩, tb_X5_cell⟩ dX5_cell_29 wd_526 wd_527 rfl) <|
  ac_cons (so_aload dX5_cell_32 rfl) <|
  ac_cons (so_getN (ci := 4) (f := 0) rfl in_X0 (by decide) dX5_cell_34 wd_232 rfl) <|
  ac_cons (so_iload_n dX5_cell_37 rfl rfl) <|
  ac_cons (so_aald4 dX5_cell_38 rfl) <|
  ac_cons (so_iload_n dX5_cell_39 rfl rfl) <|
  ac_cons (so_iald dX5_cell_40 rfl) <|
  ac_cons (so_ireturn rfl dX5_cell_41) <| ac_nil
theorem C_X5_cell : ac_Ct yX5_cell M_X5_cell T_X5_cell := ac_meth (by decide +kernel) rfl rfl rfl rfl s_X5_cell
-- X5_requireDivisor
abbrev rm_X5_requireDivisor : Room := { frames := 6, cells := 1, slots := 6, locals := 81 }
abbrev M_X5_requireDivisor : ac_D := (RX5, "requireDivisor", cX5_requireDivisor, 2, none, [], rm_X5_requireDivisor)
theorem tb_X5_requireDivisor : ac_tb RX5 [] := fun q h => (by cases h)
theorem dy_X5_requireDivisor : yX5_requireDivisor.cls ≠ "java/lang/invoke/MethodHandle" ∧ yX5_requireDivisor.cls ≠ "java/lang/invoke/VarHandle" ∧ (parseMethodDescriptor yX5_requireDivisor.desc).map (fun d => d.parameters.length) = some 1 := by decide +kernel
def k_X5_requireDivisor : List (Nat × ac_op) := [(0, op_lload 0 1),
  (1, op_push (.long 0) 2),
  (2, op_lcmp 3),
  (3, op_if (fun x => ¬ x = 0) 14 6),
  (6, op_throw rm_X5_requireDivisor 6),
  (14, op_return rm_X5_requireDivisor)]
def T_X5_requireDivisor : ac_T := ac_vc k_X5_requireDivisor 2
set_option maxRecDepth 100000 in
set_option maxHeartbeats 4000000 in
theorem s_X5_requireDivisor : ∀ x ∈ k_X5_requireDivisor, ac_So M_X5_requireDivisor (fun _ _ _ => False) x.1 x.2 :=
  ac_cons (so_lload_n dX5_requireDivisor_0 rfl rfl) <|
  ac_cons (so_lconst dX5_requireDivisor_1 (by decide +kernel) rfl) <|
  ac_cons (so_lcmp dX5_requireDivisor_2 rfl) <|
  ac_cons (so_if_ne dX5_requireDivisor_3 (by decide) rfl) <|
  ac_cons (so_throw (x := 6) (names := ["java/lang/RuntimeException", "java/lang/Exception"]) rfl (by decide +kernel) (by decide +kernel) (by decide +kernel) dX5_requireDivisor_6 dX5_requireDivisor_9 dX5_requireDivisor_10 dX5_requireDivisor_13 ⟨by decide, by decide⟩) <|
  ac_cons (so_return rfl dX5_requireDivisor_14) <| ac_nil
theorem C_X5_requireDivisor : ac_Ct yX5_requireDivisor M_X5_requireDivisor T_X5_requireDivisor := ac_meth (by decide +kernel) rfl rfl rfl rfl s_X5_requireDivisor
-- X5_setCell
abbrev rm_X5_setCell : Room := { frames := 10, cells := 11, slots := 478, locals := 10286 }
abbrev M_X5_setCell : ac_D := (RX5, "setCell", cX5_setCell, 7, none, [], rm_X5_setCell)
theorem tb_X5_setCell : ac_tb RX5 [] := fun q h => (by cases h)
theorem dy_X5_setCell : yX5_setCell.cls ≠ "java/lang/invoke/MethodHandle" ∧ yX5_setCell.cls ≠ "java/lang/invoke/VarHandle" ∧ (parseMethodDescriptor yX5_setCell.desc).map (fun d => d.parameters.length) = some 5 := by decide +kernel
def k_X5_setCell : List (Nat × ac_op) := [(0, op_iload 1 1),
  (1, op_callS rm_X5_setCell [] T_X5_requireRegister rm_X5_requireRegister 1 1 4),
  (4, op_aload 0 5),
  (5, op_iload 1 6),
  (6, op_callV rm_X5_setCell [] 8 T_X5_gridIn rm_X5_gridIn 1 6 9),
  (9, op_astore 6 11),
  (11, op_iload 2 12),
  (12, op_aload 6 14),
  (14, op_get 4 0 17),
  (17, op_alen 4 18),
  (18, op_callS rm_X5_setCell [] T_X5_requireIndex rm_X5_requireIndex 2 18 21),
  (21, op_iload 5 23),
  (23, op_i (fun x => .long x.toInt64) 24),
  (24, op_callS rm_X5_setCell [] T_X5_requireDivisor rm_X5_requireDivisor 1 24 27),
  (27, op_aload 6 29),
  (29, op_get 4 0 32),
  (32, op_iload 2 33),
  (33, op_aald 4 34),
  (34, op_iload 3 35),
  (35, op_callS rm_X5_setCell [] T_X5_requireCell rm_X5_requireCell 2 35 38),
  (38, op_aload 6 40),
  (40, op_get 4 0 43),
  (43, op_iload 2 44),
  (44, op_aald 4 45),
  (45, op_iload 3 46),
  (46, op_iload 4 48),
  (48, op_iload 5 50),
  (50, op_idiv 51),
  (51, op_iast 52),
  (52, op_return rm_X5_setCell)]
def T_X5_setCell : ac_T := ac_vc k_X5_setCell 7
set_option maxRecDepth 100000 in
set_option maxHeartbeats 4000000 in
theorem s_X5_setCell : ∀ x ∈ k_X5_setCell, ac_So M_X5_setCell (fun _ _ _ => False) x.1 x.2 :=
  ac_cons (so_iload_n dX5_setCell_0 rfl rfl) <|
  ac_cons (so_callS (N := M_X5_requireRegister) C_X5_requireRegister rfl ⟨wd_158, wd_24, dy_X5_requireRegister, ⟨by decide, by decide⟩, tb_X5_setCell⟩ dX5_setCell_1 wd_156 wd_157 rfl) <|
  ac_cons (so_aload_n dX5_setCell_4 rfl rfl) <|
  ac_cons (so_iload_n dX5_setCell_5 rfl rfl) <|
  ac_cons (so_callV (N := M_X5_gridIn) (ci := 8) C_X5_gridIn rfl ⟨wd_525, wd_24, dy_X5_gridIn, ⟨by decide, by decide⟩, tb_X5_setCell⟩ rfl dX5_setCell_6 wd_522 wd_524 wd_5 rfl) <|
  ac_cons (so_astore dX5_setCell_9 rfl) <|
  ac_cons (so_iload_n dX5_setCell_11 rfl rfl) <|
  ac_cons (so_aload dX5_setCell_12 rfl) <|
  ac_cons (so_getN (ci := 4) (f := 0) rfl in_X0 (by decide) dX5_setCell_14 wd_232 rfl) <|
  ac_cons (so_alen (t := 4) (ty := .array .int) (fun _ => rfl) dX5_setCell_17 rfl) <|
  ac_cons (so_callS (N := M_X5_requireIndex) C_X5_requireIndex rfl ⟨wd_413, wd_24, dy_X5_requireIndex, ⟨by decide, by decide⟩, tb_X5_setCell⟩ dX5_setCell_18 wd_411 wd_412 rfl) <|
  ac_cons (so_iload dX5_setCell_21 rfl) <|
  ac_cons (so_i2l dX5_setCell_23 rfl) <|
  ac_cons (so_callS (N := M_X5_requireDivisor) C_X5_requireDivisor rfl ⟨wd_552, wd_24, dy_X5_requireDivisor, ⟨by decide, by decide⟩, tb_X5_setCell⟩ dX5_setCell_24 wd_550 wd_551 rfl) <|
  ac_cons (so_aload dX5_setCell_27 rfl) <|
  ac_cons (so_getN (ci := 4) (f := 0) rfl in_X0 (by decide) dX5_setCell_29 wd_232 rfl) <|
  ac_cons (so_iload_n dX5_setCell_32 rfl rfl) <|
  ac_cons (so_aald4 dX5_setCell_33 rfl) <|
  ac_cons (so_iload_n dX5_setCell_34 rfl rfl) <|
  ac_cons (so_callS (N := M_X5_requireCell) C_X5_requireCell rfl ⟨wd_528, wd_24, dy_X5_requireCell, ⟨by decide, by decide⟩, tb_X5_setCell⟩ dX5_setCell_35 wd_526 wd_527 rfl) <|
  ac_cons (so_aload dX5_setCell_38 rfl) <|
  ac_cons (so_getN (ci := 4) (f := 0) rfl in_X0 (by decide) dX5_setCell_40 wd_232 rfl) <|
  ac_cons (so_iload_n dX5_setCell_43 rfl rfl) <|
  ac_cons (so_aald4 dX5_setCell_44 rfl) <|
  ac_cons (so_iload_n dX5_setCell_45 rfl rfl) <|
  ac_cons (so_iload dX5_setCell_46 rfl) <|
  ac_cons (so_iload dX5_setCell_48 rfl) <|
  ac_cons (so_idiv dX5_setCell_50 rfl) <|
  ac_cons (so_iast dX5_setCell_51 rfl) <|
  ac_cons (so_return rfl dX5_setCell_52) <| ac_nil
theorem C_X5_setCell : ac_Ct yX5_setCell M_X5_setCell T_X5_setCell := ac_meth (by decide +kernel) rfl rfl rfl rfl s_X5_setCell
-- X5_refer
abbrev rm_X5_refer : Room := { frames := 10, cells := 8, slots := 256, locals := 10285 }
abbrev M_X5_refer : ac_D := (RX5, "refer", cX5_refer, 6, none, [], rm_X5_refer)
theorem tb_X5_refer : ac_tb RX5 [] := fun q h => (by cases h)
theorem dy_X5_refer : yX5_refer.cls ≠ "java/lang/invoke/MethodHandle" ∧ yX5_refer.cls ≠ "java/lang/invoke/VarHandle" ∧ (parseMethodDescriptor yX5_refer.desc).map (fun d => d.parameters.length) = some 3 := by decide +kernel
def k_X5_refer : List (Nat × ac_op) := [(0, op_iload 1 1),
  (1, op_callS rm_X5_refer [] T_X5_requireRegister rm_X5_requireRegister 1 1 4),
  (4, op_iload 3 5),
  (5, op_callS rm_X5_refer [] T_X5_requireRegister rm_X5_requireRegister 1 5 8),
  (8, op_aload 0 9),
  (9, op_iload 1 10),
  (10, op_callV rm_X5_refer [] 8 T_X5_itemIn rm_X5_itemIn 1 10 13),
  (13, op_astore 4 15),
  (15, op_aload 4 17),
  (17, op_callU rm_X5_refer [] [(4, T_X0_sort, rm_X0_sort), (5, T_X2_sort, rm_X2_sort), (6, T_X3_sort, rm_X3_sort), (7, T_X4_sort, rm_X4_sort)] 0 17 20),
  (20, op_push (.int 8) 22),
  (22, op_icmp (fun x y => ¬ x = y) 29 25),
  (25, op_push (.int 1) 26),
  (26, op_goto 30),
  (29, op_push (.int 0) 30),
  (30, op_callS rm_X5_refer [] T_X5_requireSupported rm_X5_requireSupported 1 30 33),
  (33, op_aload 4 35),
  (35, op_iload 2 36),
  (36, op_callS rm_X5_refer [] T_X5_placeOf rm_X5_placeOf 2 36 39),
  (39, op_istore 5 41),
  (41, op_aload 4 43),
  (43, op_callU rm_X5_refer [] [(4, T_X1_ground, rm_X1_ground), (5, T_X1_ground, rm_X1_ground), (6, T_X3_ground, rm_X3_ground), (7, T_X4_ground, rm_X4_ground)] 0 43 46),
  (46, op_get 6 2 49),
  (49, op_iload 5 51),
  (51, op_aload 0 52),
  (52, op_get 8 0 55),
  (55, op_iload 3 56),
  (56, op_aald 3 57),
  (57, op_aast 3 58),
  (58, op_return rm_X5_refer)]
def T_X5_refer : ac_T := ac_vc k_X5_refer 6
set_option maxRecDepth 100000 in
set_option maxHeartbeats 4000000 in
theorem s_X5_refer : ∀ x ∈ k_X5_refer, ac_So M_X5_refer (fun _ _ _ => False) x.1 x.2 :=
  ac_cons (so_iload_n dX5_refer_0 rfl rfl) <|
  ac_cons (so_callS (N := M_X5_requireRegister) C_X5_requireRegister rfl ⟨wd_158, wd_24, dy_X5_requireRegister, ⟨by decide, by decide⟩, tb_X5_refer⟩ dX5_refer_1 wd_156 wd_157 rfl) <|
  ac_cons (so_iload_n dX5_refer_4 rfl rfl) <|
  ac_cons (so_callS (N := M_X5_requireRegister) C_X5_requireRegister rfl ⟨wd_158, wd_24, dy_X5_requireRegister, ⟨by decide, by decide⟩, tb_X5_refer⟩ dX5_refer_5 wd_156 wd_157 rfl) <|
  ac_cons (so_aload_n dX5_refer_8 rfl rfl) <|
  ac_cons (so_iload_n dX5_refer_9 rfl rfl) <|
  ac_cons (so_callV (N := M_X5_itemIn) (ci := 8) C_X5_itemIn rfl ⟨wd_290, wd_24, dy_X5_itemIn, ⟨by decide, by decide⟩, tb_X5_refer⟩ rfl dX5_refer_10 wd_287 wd_289 wd_3 rfl) <|
  ac_cons (so_astore dX5_refer_13 rfl) <|
  ac_cons (so_aload dX5_refer_15 rfl) <|
  ac_cons (so_callU (M := M_X5_refer) (x := ⟨"TypedHall$Item", "sort", "()I"⟩) (ac_cons4 (⟨yX0_sort, M_X0_sort, _, C_X0_sort, rfl, rfl, ⟨wd_486, wd_34, dy_X0_sort, ⟨by decide, by decide⟩, tb_X5_refer⟩, rfl, wd_485, wd_484⟩) (⟨yX2_sort, M_X2_sort, _, C_X2_sort, rfl, rfl, ⟨wd_489, wd_35, dy_X2_sort, ⟨by decide, by decide⟩, tb_X5_refer⟩, rfl, wd_488, wd_487⟩) (⟨yX3_sort, M_X3_sort, _, C_X3_sort, rfl, rfl, ⟨wd_492, wd_33, dy_X3_sort, ⟨by decide, by decide⟩, tb_X5_refer⟩, rfl, wd_491, wd_490⟩) (⟨yX4_sort, M_X4_sort, _, C_X4_sort, rfl, rfl, ⟨wd_495, wd_39, dy_X4_sort, ⟨by decide, by decide⟩, tb_X5_refer⟩, rfl, wd_494, wd_493⟩)) (Or.inr wd_482) wd_483 ⟨by decide, by decide, by decide +kernel⟩ dX5_refer_17 wd_481 rfl) <|
  ac_cons (so_bipush dX5_refer_20 (by decide +kernel) rfl) <|
  ac_cons (so_icmp_ne dX5_refer_22 (by decide) rfl) <|
  ac_cons (so_iconst dX5_refer_25 (by decide +kernel) rfl) <|
  ac_cons (so_goto dX5_refer_26 (by decide)) <|
  ac_cons (so_iconst dX5_refer_29 (by decide +kernel) rfl) <|
  ac_cons (so_callS (N := M_X5_requireSupported) C_X5_requireSupported rfl ⟨wd_308, wd_24, dy_X5_requireSupported, ⟨by decide, by decide⟩, tb_X5_refer⟩ dX5_refer_30 wd_306 wd_307 rfl) <|
  ac_cons (so_aload dX5_refer_33 rfl) <|
  ac_cons (so_iload_n dX5_refer_35 rfl rfl) <|
  ac_cons (so_callS (N := M_X5_placeOf) C_X5_placeOf rfl ⟨wd_501, wd_24, dy_X5_placeOf, ⟨by decide, by decide⟩, tb_X5_refer⟩ dX5_refer_36 wd_499 wd_500 rfl) <|
  ac_cons (so_istore dX5_refer_39 rfl) <|
  ac_cons (so_aload dX5_refer_41 rfl) <|
  ac_cons (so_callU (M := M_X5_refer) (x := ⟨"TypedHall$Item", "ground", "()LTypedHall$VectorItem;"⟩) (ac_cons4 (⟨yX1_ground, M_X1_ground, _, C_X1_ground, rfl, rfl, ⟨wd_305, wd_32, dy_X1_ground, ⟨by decide, by decide⟩, tb_X5_refer⟩, rfl, wd_295, wd_297⟩) (⟨yX1_ground, M_X1_ground, _, C_X1_ground, rfl, rfl, ⟨wd_305, wd_32, dy_X1_ground, ⟨by decide, by decide⟩, tb_X5_refer⟩, rfl, wd_295, wd_298⟩) (⟨yX3_ground, M_X3_ground, _, C_X3_ground, rfl, rfl, ⟨wd_301, wd_33, dy_X3_ground, ⟨by decide, by decide⟩, tb_X5_refer⟩, rfl, wd_300, wd_299⟩) (⟨yX4_ground, M_X4_ground, _, C_X4_ground, rfl, rfl, ⟨wd_304, wd_39, dy_X4_ground, ⟨by decide, by decide⟩, tb_X5_refer⟩, rfl, wd_303, wd_302⟩)) (Or.inl ⟨wd_295, _, _, _, wd_305⟩) wd_296 ⟨by decide, by decide, by decide +kernel⟩ dX5_refer_43 wd_294 rfl) <|
  ac_cons (so_getN (ci := 6) (f := 2) rfl in_X3 (by decide) dX5_refer_46 wd_202 rfl) <|
  ac_cons (so_iload dX5_refer_49 rfl) <|
  ac_cons (so_aload_n dX5_refer_51 rfl rfl) <|
  ac_cons (so_get (ci := 8) (f := 0) rfl in_X5 (by decide) dX5_refer_52 wd_56 rfl) <|
  ac_cons (so_iload_n dX5_refer_55 rfl rfl) <|
  ac_cons (so_aald3 dX5_refer_56 rfl) <|
  ac_cons (so_aast3 dX5_refer_57 rfl) <|
  ac_cons (so_return rfl dX5_refer_58) <| ac_nil
theorem C_X5_refer : ac_Ct yX5_refer M_X5_refer T_X5_refer := ac_meth (by decide +kernel) rfl rfl rfl rfl s_X5_refer
-- X5_fetch
abbrev rm_X5_fetch : Room := { frames := 10, cells := 8, slots := 256, locals := 10285 }
abbrev M_X5_fetch : ac_D := (RX5, "fetch", cX5_fetch, 7, some FieldType.int, [], rm_X5_fetch)
theorem tb_X5_fetch : ac_tb RX5 [] := fun q h => (by cases h)
theorem dy_X5_fetch : yX5_fetch.cls ≠ "java/lang/invoke/MethodHandle" ∧ yX5_fetch.cls ≠ "java/lang/invoke/VarHandle" ∧ (parseMethodDescriptor yX5_fetch.desc).map (fun d => d.parameters.length) = some 3 := by decide +kernel
def k_X5_fetch : List (Nat × ac_op) := [(0, op_iload 1 1),
  (1, op_callS rm_X5_fetch [] T_X5_requireRegister rm_X5_requireRegister 1 1 4),
  (4, op_iload 2 5),
  (5, op_callS rm_X5_fetch [] T_X5_requireRegister rm_X5_requireRegister 1 5 8),
  (8, op_aload 0 9),
  (9, op_iload 2 10),
  (10, op_callV rm_X5_fetch [] 8 T_X5_itemIn rm_X5_itemIn 1 10 13),
  (13, op_astore 4 15),
  (15, op_aload 4 17),
  (17, op_callU rm_X5_fetch [] [(4, T_X0_sort, rm_X0_sort), (5, T_X2_sort, rm_X2_sort), (6, T_X3_sort, rm_X3_sort), (7, T_X4_sort, rm_X4_sort)] 0 17 20),
  (20, op_push (.int 8) 22),
  (22, op_icmp (fun x y => ¬ x = y) 29 25),
  (25, op_push (.int 1) 26),
  (26, op_goto 30),
  (29, op_push (.int 0) 30),
  (30, op_callS rm_X5_fetch [] T_X5_requireSupported rm_X5_requireSupported 1 30 33),
  (33, op_aload 4 35),
  (35, op_iload 3 36),
  (36, op_callS rm_X5_fetch [] T_X5_placeOf rm_X5_placeOf 2 36 39),
  (39, op_istore 5 41),
  (41, op_aload 4 43),
  (43, op_callU rm_X5_fetch [] [(4, T_X1_ground, rm_X1_ground), (5, T_X1_ground, rm_X1_ground), (6, T_X3_ground, rm_X3_ground), (7, T_X4_ground, rm_X4_ground)] 0 43 46),
  (46, op_get 6 2 49),
  (49, op_iload 5 51),
  (51, op_aald 3 52),
  (52, op_astore 6 54),
  (54, op_aload 0 55),
  (55, op_get 8 0 58),
  (58, op_iload 1 59),
  (59, op_aload 6 61),
  (61, op_aast 3 62),
  (62, op_aload 6 64),
  (64, op_ifnonnull 71 67),
  (67, op_push (.int (-1)) 68),
  (68, op_goto 76),
  (71, op_aload 6 73),
  (73, op_callU rm_X5_fetch [] [(4, T_X0_sort, rm_X0_sort), (5, T_X2_sort, rm_X2_sort), (6, T_X3_sort, rm_X3_sort), (7, T_X4_sort, rm_X4_sort)] 0 73 76),
  (76, op_ireturn rm_X5_fetch)]
def T_X5_fetch : ac_T := ac_vc k_X5_fetch 7
set_option maxRecDepth 100000 in
set_option maxHeartbeats 4000000 in
theorem s_X5_fetch : ∀ x ∈ k_X5_fetch, ac_So M_X5_fetch (fun _ _ _ => False) x.1 x.2 :=
  ac_cons (so_iload_n dX5_fetch_0 rfl rfl) <|
  ac_cons (so_callS (N := M_X5_requireRegister) C_X5_requireRegister rfl ⟨wd_158, wd_24, dy_X5_requireRegister, ⟨by decide, by decide⟩, tb_X5_fetch⟩ dX5_fetch_1 wd_156 wd_157 rfl) <|
  ac_cons (so_iload_n dX5_fetch_4 rfl rfl) <|
  ac_cons (so_callS (N := M_X5_requireRegister) C_X5_requireRegister rfl ⟨wd_158, wd_24, dy_X5_requireRegister, ⟨by decide, by decide⟩, tb_X5_fetch⟩ dX5_fetch_5 wd_156 wd_157 rfl) <|
  ac_cons (so_aload_n dX5_fetch_8 rfl rfl) <|
  ac_cons (so_iload_n dX5_fetch_9 rfl rfl) <|
  ac_cons (so_callV (N := M_X5_itemIn) (ci := 8) C_X5_itemIn rfl ⟨wd_290, wd_24, dy_X5_itemIn, ⟨by decide, by decide⟩, tb_X5_fetch⟩ rfl dX5_fetch_10 wd_287 wd_289 wd_3 rfl) <|
  ac_cons (so_astore dX5_fetch_13 rfl) <|
  ac_cons (so_aload dX5_fetch_15 rfl) <|
  ac_cons (so_callU (M := M_X5_fetch) (x := ⟨"TypedHall$Item", "sort", "()I"⟩) (ac_cons4 (⟨yX0_sort, M_X0_sort, _, C_X0_sort, rfl, rfl, ⟨wd_486, wd_34, dy_X0_sort, ⟨by decide, by decide⟩, tb_X5_fetch⟩, rfl, wd_485, wd_484⟩) (⟨yX2_sort, M_X2_sort, _, C_X2_sort, rfl, rfl, ⟨wd_489, wd_35, dy_X2_sort, ⟨by decide, by decide⟩, tb_X5_fetch⟩, rfl, wd_488, wd_487⟩) (⟨yX3_sort, M_X3_sort, _, C_X3_sort, rfl, rfl, ⟨wd_492, wd_33, dy_X3_sort, ⟨by decide, by decide⟩, tb_X5_fetch⟩, rfl, wd_491, wd_490⟩) (⟨yX4_sort, M_X4_sort, _, C_X4_sort, rfl, rfl, ⟨wd_495, wd_39, dy_X4_sort, ⟨by decide, by decide⟩, tb_X5_fetch⟩, rfl, wd_494, wd_493⟩)) (Or.inr wd_482) wd_483 ⟨by decide, by decide, by decide +kernel⟩ dX5_fetch_17 wd_481 rfl) <|
  ac_cons (so_bipush dX5_fetch_20 (by decide +kernel) rfl) <|
  ac_cons (so_icmp_ne dX5_fetch_22 (by decide) rfl) <|
  ac_cons (so_iconst dX5_fetch_25 (by decide +kernel) rfl) <|
  ac_cons (so_goto dX5_fetch_26 (by decide)) <|
  ac_cons (so_iconst dX5_fetch_29 (by decide +kernel) rfl) <|
  ac_cons (so_callS (N := M_X5_requireSupported) C_X5_requireSupported rfl ⟨wd_308, wd_24, dy_X5_requireSupported, ⟨by decide, by decide⟩, tb_X5_fetch⟩ dX5_fetch_30 wd_306 wd_307 rfl) <|
  ac_cons (so_aload dX5_fetch_33 rfl) <|
  ac_cons (so_iload_n dX5_fetch_35 rfl rfl) <|
  ac_cons (so_callS (N := M_X5_placeOf) C_X5_placeOf rfl ⟨wd_501, wd_24, dy_X5_placeOf, ⟨by decide, by decide⟩, tb_X5_fetch⟩ dX5_fetch_36 wd_499 wd_500 rfl) <|
  ac_cons (so_istore dX5_fetch_39 rfl) <|
  ac_cons (so_aload dX5_fetch_41 rfl) <|
  ac_cons (so_callU (M := M_X5_fetch) (x := ⟨"TypedHall$Item", "ground", "()LTypedHall$VectorItem;"⟩) (ac_cons4 (⟨yX1_ground, M_X1_ground, _, C_X1_ground, rfl, rfl, ⟨wd_305, wd_32, dy_X1_ground, ⟨by decide, by decide⟩, tb_X5_fetch⟩, rfl, wd_295, wd_297⟩) (⟨yX1_ground, M_X1_ground, _, C_X1_ground, rfl, rfl, ⟨wd_305, wd_32, dy_X1_ground, ⟨by decide, by decide⟩, tb_X5_fetch⟩, rfl, wd_295, wd_298⟩) (⟨yX3_ground, M_X3_ground, _, C_X3_ground, rfl, rfl, ⟨wd_301, wd_33, dy_X3_ground, ⟨by decide, by decide⟩, tb_X5_fetch⟩, rfl, wd_300, wd_299⟩) (⟨yX4_ground, M_X4_ground, _, C_X4_ground, rfl, rfl, ⟨wd_304, wd_39, dy_X4_ground, ⟨by decide, by decide⟩, tb_X5_fetch⟩, rfl, wd_303, wd_302⟩)) (Or.inl ⟨wd_295, _, _, _, wd_305⟩) wd_296 ⟨by decide, by decide, by decide +kernel⟩ dX5_fetch_43 wd_294 rfl) <|
  ac_cons (so_getN (ci := 6) (f := 2) rfl in_X3 (by decide) dX5_fetch_46 wd_202 rfl) <|
  ac_cons (so_iload dX5_fetch_49 rfl) <|
  ac_cons (so_aald3 dX5_fetch_51 rfl) <|
  ac_cons (so_astore dX5_fetch_52 rfl) <|
  ac_cons (so_aload_n dX5_fetch_54 rfl rfl) <|
  ac_cons (so_get (ci := 8) (f := 0) rfl in_X5 (by decide) dX5_fetch_55 wd_56 rfl) <|
  ac_cons (so_iload_n dX5_fetch_58 rfl rfl) <|
  ac_cons (so_aload dX5_fetch_59 rfl) <|
  ac_cons (so_aast3 dX5_fetch_61 rfl) <|
  ac_cons (so_aload dX5_fetch_62 rfl) <|
  ac_cons (so_ifnonnull dX5_fetch_64 (by decide) rfl) <|
  ac_cons (so_iconst dX5_fetch_67 (by decide +kernel) rfl) <|
  ac_cons (so_goto dX5_fetch_68 (by decide)) <|
  ac_cons (so_aload dX5_fetch_71 rfl) <|
  ac_cons (so_callU (M := M_X5_fetch) (x := ⟨"TypedHall$Item", "sort", "()I"⟩) (ac_cons4 (⟨yX0_sort, M_X0_sort, _, C_X0_sort, rfl, rfl, ⟨wd_486, wd_34, dy_X0_sort, ⟨by decide, by decide⟩, tb_X5_fetch⟩, rfl, wd_485, wd_484⟩) (⟨yX2_sort, M_X2_sort, _, C_X2_sort, rfl, rfl, ⟨wd_489, wd_35, dy_X2_sort, ⟨by decide, by decide⟩, tb_X5_fetch⟩, rfl, wd_488, wd_487⟩) (⟨yX3_sort, M_X3_sort, _, C_X3_sort, rfl, rfl, ⟨wd_492, wd_33, dy_X3_sort, ⟨by decide, by decide⟩, tb_X5_fetch⟩, rfl, wd_491, wd_490⟩) (⟨yX4_sort, M_X4_sort, _, C_X4_sort, rfl, rfl, ⟨wd_495, wd_39, dy_X4_sort, ⟨by decide, by decide⟩, tb_X5_fetch⟩, rfl, wd_494, wd_493⟩)) (Or.inr wd_482) wd_483 ⟨by decide, by decide, by decide +kernel⟩ dX5_fetch_73 wd_481 rfl) <|
  ac_cons (so_ireturn rfl dX5_fetch_76) <| ac_nil
theorem C_X5_fetch : ac_Ct yX5_fetch M_X5_fetch T_X5_fetch := ac_meth (by decide +kernel) rfl rfl rfl rfl s_X5_fetch
-- X5_recordOrNone
abbrev rm_X5_recordOrNone : Room := { frames := 7, cells := 1, slots := 6, locals := 101 }
abbrev M_X5_recordOrNone : ac_D := (RX5, "recordOrNone", cX5_recordOrNone, 5, some (FieldType.object "TypedHall$RecordItem"), [], rm_X5_recordOrNone)
theorem tb_X5_recordOrNone : ac_tb RX5 [] := fun q h => (by cases h)
theorem dy_X5_recordOrNone : yX5_recordOrNone.cls ≠ "java/lang/invoke/MethodHandle" ∧ yX5_recordOrNone.cls ≠ "java/lang/invoke/VarHandle" ∧ (parseMethodDescriptor yX5_recordOrNone.desc).map (fun d => d.parameters.length) = some 1 := by decide +kernel
def k_X5_recordOrNone : List (Nat × ac_op) := [(0, op_aload 0 1),
  (1, op_get 8 0 4),
  (4, op_iload 1 5),
  (5, op_aald 3 6),
  (6, op_astore 2 7),
  (7, op_aload 2 8),
  (8, op_inst 5 11),
  (11, op_if (fun x => x = 0) 25 14),
  (14, op_aload 2 15),
  (15, op_cast 5 18),
  (18, op_astore 4 20),
  (20, op_aload 4 22),
  (22, op_goto 26),
  (25, op_push .null 26),
  (26, op_astore 3 27),
  (27, op_aload 2 28),
  (28, op_ifnull 35 31),
  (31, op_aload 3 32),
  (32, op_ifnull 39 35),
  (35, op_push (.int 1) 36),
  (36, op_goto 40),
  (39, op_push (.int 0) 40),
  (40, op_callS rm_X5_recordOrNone [] T_X5_requireSupported rm_X5_requireSupported 1 40 43),
  (43, op_aload 3 44),
  (44, op_areturn rm_X5_recordOrNone)]
def T_X5_recordOrNone : ac_T := ac_vc k_X5_recordOrNone 5
set_option maxRecDepth 100000 in
set_option maxHeartbeats 4000000 in
theorem s_X5_recordOrNone : ∀ x ∈ k_X5_recordOrNone, ac_So M_X5_recordOrNone (fun _ _ _ => False) x.1 x.2 :=
  ac_cons (so_aload_n dX5_recordOrNone_0 rfl rfl) <|
  ac_cons (so_get (ci := 8) (f := 0) rfl in_X5 (by decide) dX5_recordOrNone_1 wd_56 rfl) <|
  ac_cons (so_iload_n dX5_recordOrNone_4 rfl rfl) <|
  ac_cons (so_aald3 dX5_recordOrNone_5 rfl) <|
  ac_cons (so_astore_n dX5_recordOrNone_6 rfl rfl) <|
  ac_cons (so_aload_n dX5_recordOrNone_7 rfl rfl) <|
  ac_cons (so_inst (ci := 5) (by decide) rfl dX5_recordOrNone_8 wd_243 rfl) <|
  ac_cons (so_if_eq dX5_recordOrNone_11 (by decide) rfl) <|
  ac_cons (so_aload_n dX5_recordOrNone_14 rfl rfl) <|
  ac_cons (so_cast (ci := 5) rfl dX5_recordOrNone_15 wd_243 rfl) <|
  ac_cons (so_astore dX5_recordOrNone_18 rfl) <|
  ac_cons (so_aload dX5_recordOrNone_20 rfl) <|
  ac_cons (so_goto dX5_recordOrNone_22 (by decide)) <|
  ac_cons (so_null dX5_recordOrNone_25 rfl) <|
  ac_cons (so_astore_n dX5_recordOrNone_26 rfl rfl) <|
  ac_cons (so_aload_n dX5_recordOrNone_27 rfl rfl) <|
  ac_cons (so_ifnull dX5_recordOrNone_28 (by decide) rfl) <|
  ac_cons (so_aload_n dX5_recordOrNone_31 rfl rfl) <|
  ac_cons (so_ifnull dX5_recordOrNone_32 (by decide) rfl) <|
  ac_cons (so_iconst dX5_recordOrNone_35 (by decide +kernel) rfl) <|
  ac_cons (so_goto dX5_recordOrNone_36 (by decide)) <|
  ac_cons (so_iconst dX5_recordOrNone_39 (by decide +kernel) rfl) <|
  ac_cons (so_callS (N := M_X5_requireSupported) C_X5_requireSupported rfl ⟨wd_308, wd_24, dy_X5_requireSupported, ⟨by decide, by decide⟩, tb_X5_recordOrNone⟩ dX5_recordOrNone_40 wd_306 wd_307 rfl) <|
  ac_cons (so_aload_n dX5_recordOrNone_43 rfl rfl) <|
  ac_cons (so_areturn rfl (by first | exact Or.inl ⟨_, rfl⟩ | exact Or.inr ⟨_, rfl⟩) dX5_recordOrNone_44) <| ac_nil
theorem C_X5_recordOrNone : ac_Ct yX5_recordOrNone M_X5_recordOrNone T_X5_recordOrNone := ac_meth (by decide +kernel) rfl rfl rfl rfl s_X5_recordOrNone
-- X5_recordIn
abbrev rm_X5_recordIn : Room := { frames := 9, cells := 2, slots := 14, locals := 10262 }
abbrev M_X5_recordIn : ac_D := (RX5, "recordIn", cX5_recordIn, 3, some (FieldType.object "TypedHall$RecordItem"), [], rm_X5_recordIn)
theorem tb_X5_recordIn : ac_tb RX5 [] := fun q h => (by cases h)
theorem dy_X5_recordIn : yX5_recordIn.cls ≠ "java/lang/invoke/MethodHandle" ∧ yX5_recordIn.cls ≠ "java/lang/invoke/VarHandle" ∧ (parseMethodDescriptor yX5_recordIn.desc).map (fun d => d.parameters.length) = some 1 := by decide +kernel
def k_X5_recordIn : List (Nat × ac_op) := [(0, op_aload 0 1),
  (1, op_iload 1 2),
  (2, op_callV rm_X5_recordIn [] 8 T_X5_recordOrNone rm_X5_recordOrNone 1 2 5),
  (5, op_astore 2 6),
  (6, op_aload 2 7),
  (7, op_ifnull 14 10),
  (10, op_push (.int 1) 11),
  (11, op_goto 15),
  (14, op_push (.int 0) 15),
  (15, op_callS rm_X5_recordIn [] T_X5_requirePresent rm_X5_requirePresent 1 15 18),
  (18, op_aload 2 19),
  (19, op_areturn rm_X5_recordIn)]
def T_X5_recordIn : ac_T := ac_vc k_X5_recordIn 3
set_option maxRecDepth 100000 in
set_option maxHeartbeats 4000000 in
theorem s_X5_recordIn : ∀ x ∈ k_X5_recordIn, ac_So M_X5_recordIn (fun _ _ _ => False) x.1 x.2 :=
  ac_cons (so_aload_n dX5_recordIn_0 rfl rfl) <|
  ac_cons (so_iload_n dX5_recordIn_1 rfl rfl) <|
  ac_cons (so_callV (N := M_X5_recordOrNone) (ci := 8) C_X5_recordOrNone rfl ⟨wd_582, wd_24, dy_X5_recordOrNone, ⟨by decide, by decide⟩, tb_X5_recordIn⟩ rfl dX5_recordIn_2 wd_579 wd_581 wd_6 rfl) <|
  ac_cons (so_astore_n dX5_recordIn_5 rfl rfl) <|
  ac_cons (so_aload_n dX5_recordIn_6 rfl rfl) <|
  ac_cons (so_ifnull dX5_recordIn_7 (by decide) rfl) <|
  ac_cons (so_iconst dX5_recordIn_10 (by decide +kernel) rfl) <|
  ac_cons (so_goto dX5_recordIn_11 (by decide)) <|
  ac_cons (so_iconst dX5_recordIn_14 (by decide +kernel) rfl) <|
  ac_cons (so_callS (N := M_X5_requirePresent) C_X5_requirePresent rfl ⟨wd_293, wd_24, dy_X5_requirePresent, ⟨by decide, by decide⟩, tb_X5_recordIn⟩ dX5_recordIn_15 wd_291 wd_292 rfl) <|
  ac_cons (so_aload_n dX5_recordIn_18 rfl rfl) <|
  ac_cons (so_areturn rfl (by first | exact Or.inl ⟨_, rfl⟩ | exact Or.inr ⟨_, rfl⟩) dX5_recordIn_19) <| ac_nil
theorem C_X5_recordIn : ac_Ct yX5_recordIn M_X5_recordIn T_X5_recordIn := ac_meth (by decide +kernel) rfl rfl rfl rfl s_X5_recordIn
-- X5_link
abbrev rm_X5_link : Room := { frames := 10, cells := 5, slots := 32, locals := 10284 }
abbrev M_X5_link : ac_D := (RX5, "link", cX5_link, 4, none, [], rm_X5_link)
theorem tb_X5_link : ac_tb RX5 [] := fun q h => (by cases h)
theorem dy_X5_link : yX5_link.cls ≠ "java/lang/invoke/MethodHandle" ∧ yX5_link.cls ≠ "java/lang/invoke/VarHandle" ∧ (parseMethodDescriptor yX5_link.desc).map (fun d => d.parameters.length) = some 2 := by decide +kernel
def k_X5_link : List (Nat × ac_op) := [(0, op_iload 1 1),
  (1, op_callS rm_X5_link [] T_X5_requireRegister rm_X5_requireRegister 1 1 4),
  (4, op_iload 2 5),
  (5, op_callS rm_X5_link [] T_X5_requireRegister rm_X5_requireRegister 1 5 8),
  (8, op_aload 0 9),
  (9, op_iload 2 10),
  (10, op_callV rm_X5_link [] 8 T_X5_recordOrNone rm_X5_recordOrNone 1 10 13),
  (13, op_astore 3 14),
  (14, op_aload 0 15),
  (15, op_iload 1 16),
  (16, op_callV rm_X5_link [] 8 T_X5_recordIn rm_X5_recordIn 1 16 19),
  (19, op_aload 3 20),
  (20, op_put 5 1 23),
  (23, op_return rm_X5_link)]
def T_X5_link : ac_T := ac_vc k_X5_link 4
set_option maxRecDepth 100000 in
set_option maxHeartbeats 4000000 in
theorem s_X5_link : ∀ x ∈ k_X5_link, ac_So M_X5_link (fun _ _ _ => False) x.1 x.2 :=
  ac_cons (so_iload_n dX5_link_0 rfl rfl) <|
  ac_cons (so_callS (N := M_X5_requireRegister) C_X5_requireRegister rfl ⟨wd_158, wd_24, dy_X5_requireRegister, ⟨by decide, by decide⟩, tb_X5_link⟩ dX5_link_1 wd_156 wd_157 rfl) <|
  ac_cons (so_iload_n dX5_link_4 rfl rfl) <|
  ac_cons (so_callS (N := M_X5_requireRegister) C_X5_requireRegister rfl ⟨wd_158, wd_24, dy_X5_requireRegister, ⟨by decide, by decide⟩, tb_X5_link⟩ dX5_link_5 wd_156 wd_157 rfl) <|
  ac_cons (so_aload_n dX5_link_8 rfl rfl) <|
  ac_cons (so_iload_n dX5_link_9 rfl rfl) <|
  ac_cons (so_callV (N := M_X5_recordOrNone) (ci := 8) C_X5_recordOrNone rfl ⟨wd_582, wd_24, dy_X5_recordOrNone, ⟨by decide, by decide⟩, tb_X5_link⟩ rfl dX5_link_10 wd_579 wd_581 wd_6 rfl) <|
  ac_cons (so_astore_n dX5_link_13 rfl rfl) <|
  ac_cons (so_aload_n dX5_link_14 rfl rfl) <|
  ac_cons (so_iload_n dX5_link_15 rfl rfl) <|
  ac_cons (so_callV (N := M_X5_recordIn) (ci := 8) C_X5_recordIn rfl ⟨wd_586, wd_24, dy_X5_recordIn, ⟨by decide, by decide⟩, tb_X5_link⟩ rfl dX5_link_16 wd_583 wd_585 wd_7 rfl) <|
  ac_cons (so_aload_n dX5_link_19 rfl rfl) <|
  ac_cons (so_putN (ci := 5) (f := 1) rfl in_X2 tyX2_ok nmX2 (by decide) rfl rfl dX5_link_20 wd_252 rfl) <|
  ac_cons (so_return rfl dX5_link_23) <| ac_nil
theorem C_X5_link : ac_Ct yX5_link M_X5_link T_X5_link := ac_meth (by decide +kernel) rfl rfl rfl rfl s_X5_link
-- X5_follow
abbrev rm_X5_follow : Room := { frames := 10, cells := 4, slots := 26, locals := 10284 }
abbrev M_X5_follow : ac_D := (RX5, "follow", cX5_follow, 4, some FieldType.boolean, [], rm_X5_follow)
theorem tb_X5_follow : ac_tb RX5 [] := fun q h => (by cases h)
theorem dy_X5_follow : yX5_follow.cls ≠ "java/lang/invoke/MethodHandle" ∧ yX5_follow.cls ≠ "java/lang/invoke/VarHandle" ∧ (parseMethodDescriptor yX5_follow.desc).map (fun d => d.parameters.length) = some 2 := by decide +kernel
def k_X5_follow : List (Nat × ac_op) := [(0, op_iload 1 1),
  (1, op_callS rm_X5_follow [] T_X5_requireRegister rm_X5_requireRegister 1 1 4),
  (4, op_iload 2 5),
  (5, op_callS rm_X5_follow [] T_X5_requireRegister rm_X5_requireRegister 1 5 8),
  (8, op_aload 0 9),
  (9, op_iload 2 10),
  (10, op_callV rm_X5_follow [] 8 T_X5_recordIn rm_X5_recordIn 1 10 13),
  (13, op_get 5 1 16),
  (16, op_astore 3 17),
  (17, op_aload 0 18),
  (18, op_get 8 0 21),
  (21, op_iload 1 22),
  (22, op_aload 3 23),
  (23, op_aast 3 24),
  (24, op_aload 3 25),
  (25, op_ifnonnull 32 28),
  (28, op_push (.int 1) 29),
  (29, op_goto 33),
  (32, op_push (.int 0) 33),
  (33, op_zreturn rm_X5_follow)]
def T_X5_follow : ac_T := ac_vc k_X5_follow 4
set_option maxRecDepth 100000 in
set_option maxHeartbeats 4000000 in
theorem s_X5_follow : ∀ x ∈ k_X5_follow, ac_So M_X5_follow (fun _ _ _ => False) x.1 x.2 :=
  ac_cons (so_iload_n dX5_follow_0 rfl rfl) <|
  ac_cons (so_callS (N := M_X5_requireRegister) C_X5_requireRegister rfl ⟨wd_158, wd_24, dy_X5_requireRegister, ⟨by decide, by decide⟩, tb_X5_follow⟩ dX5_follow_1 wd_156 wd_157 rfl) <|
  ac_cons (so_iload_n dX5_follow_4 rfl rfl) <|
  ac_cons (so_callS (N := M_X5_requireRegister) C_X5_requireRegister rfl ⟨wd_158, wd_24, dy_X5_requireRegister, ⟨by decide, by decide⟩, tb_X5_follow⟩ dX5_follow_5 wd_156 wd_157 rfl) <|
  ac_cons (so_aload_n dX5_follow_8 rfl rfl) <|
  ac_cons (so_iload_n dX5_follow_9 rfl rfl) <|
  ac_cons (so_callV (N := M_X5_recordIn) (ci := 8) C_X5_recordIn rfl ⟨wd_586, wd_24, dy_X5_recordIn, ⟨by decide, by decide⟩, tb_X5_follow⟩ rfl dX5_follow_10 wd_583 wd_585 wd_7 rfl) <|
  ac_cons (so_getN (ci := 5) (f := 1) rfl in_X2 (by decide) dX5_follow_13 wd_252 rfl) <|
  ac_cons (so_astore_n dX5_follow_16 rfl rfl) <|
  ac_cons (so_aload_n dX5_follow_17 rfl rfl) <|
  ac_cons (so_get (ci := 8) (f := 0) rfl in_X5 (by decide) dX5_follow_18 wd_56 rfl) <|
  ac_cons (so_iload_n dX5_follow_21 rfl rfl) <|
  ac_cons (so_aload_n dX5_follow_22 rfl rfl) <|
  ac_cons (so_aast3 dX5_follow_23 rfl) <|
  ac_cons (so_aload_n dX5_follow_24 rfl rfl) <|
  ac_cons (so_ifnonnull dX5_follow_25 (by decide) rfl) <|
  ac_cons (so_iconst dX5_follow_28 (by decide +kernel) rfl) <|
  ac_cons (so_goto dX5_follow_29 (by decide)) <|
  ac_cons (so_iconst dX5_follow_32 (by decide +kernel) rfl) <|
  ac_cons (so_zreturn rfl dX5_follow_33) <| ac_nil
theorem C_X5_follow : ac_Ct yX5_follow M_X5_follow T_X5_follow := ac_meth (by decide +kernel) rfl rfl rfl rfl s_X5_follow
-- X5_exchange
abbrev rm_X5_exchange : Room := { frames := 10, cells := 3, slots := 20, locals := 10284 }
abbrev M_X5_exchange : ac_D := (RX5, "exchange", cX5_exchange, 7, some FieldType.long, [], rm_X5_exchange)
theorem tb_X5_exchange : ac_tb RX5 [] := fun q h => (by cases h)
theorem dy_X5_exchange : yX5_exchange.cls ≠ "java/lang/invoke/MethodHandle" ∧ yX5_exchange.cls ≠ "java/lang/invoke/VarHandle" ∧ (parseMethodDescriptor yX5_exchange.desc).map (fun d => d.parameters.length) = some 2 := by decide +kernel
def k_X5_exchange : List (Nat × ac_op) := [(0, op_iload 1 1),
  (1, op_callS rm_X5_exchange [] T_X5_requireRegister rm_X5_requireRegister 1 1 4),
  (4, op_aload 0 5),
  (5, op_iload 1 6),
  (6, op_callV rm_X5_exchange [] 8 T_X5_recordIn rm_X5_recordIn 1 6 9),
  (9, op_astore 4 11),
  (11, op_aload 4 13),
  (13, op_get 5 0 16),
  (16, op_lstore 5 18),
  (18, op_aload 4 20),
  (20, op_lload 2 21),
  (21, op_put 5 0 24),
  (24, op_lload 5 26),
  (26, op_lreturn rm_X5_exchange)]
def T_X5_exchange : ac_T := ac_vc k_X5_exchange 7
set_option maxRecDepth 100000 in
set_option maxHeartbeats 4000000 in
theorem s_X5_exchange : ∀ x ∈ k_X5_exchange, ac_So M_X5_exchange (fun _ _ _ => False) x.1 x.2 :=
  ac_cons (so_iload_n dX5_exchange_0 rfl rfl) <|
  ac_cons (so_callS (N := M_X5_requireRegister) C_X5_requireRegister rfl ⟨wd_158, wd_24, dy_X5_requireRegister, ⟨by decide, by decide⟩, tb_X5_exchange⟩ dX5_exchange_1 wd_156 wd_157 rfl) <|
  ac_cons (so_aload_n dX5_exchange_4 rfl rfl) <|
  ac_cons (so_iload_n dX5_exchange_5 rfl rfl) <|
  ac_cons (so_callV (N := M_X5_recordIn) (ci := 8) C_X5_recordIn rfl ⟨wd_586, wd_24, dy_X5_recordIn, ⟨by decide, by decide⟩, tb_X5_exchange⟩ rfl dX5_exchange_6 wd_583 wd_585 wd_7 rfl) <|
  ac_cons (so_astore dX5_exchange_9 rfl) <|
  ac_cons (so_aload dX5_exchange_11 rfl) <|
  ac_cons (so_getN (ci := 5) (f := 0) rfl in_X2 (by decide) dX5_exchange_13 wd_250 rfl) <|
  ac_cons (so_lstore dX5_exchange_16 rfl) <|
  ac_cons (so_aload dX5_exchange_18 rfl) <|
  ac_cons (so_lload_n dX5_exchange_20 rfl rfl) <|
  ac_cons (so_putN (ci := 5) (f := 0) rfl in_X2 tyX2_ok nmX2 (by decide) rfl rfl dX5_exchange_21 wd_250 rfl) <|
  ac_cons (so_lload dX5_exchange_24 rfl) <|
  ac_cons (so_lreturn rfl dX5_exchange_26) <| ac_nil
theorem C_X5_exchange : ac_Ct yX5_exchange M_X5_exchange T_X5_exchange := ac_meth (by decide +kernel) rfl rfl rfl rfl s_X5_exchange
-- X5_total
abbrev rm_X5_total : Room := { frames := 10, cells := 3, slots := 20, locals := 10284 }
abbrev M_X5_total : ac_D := (RX5, "total", cX5_total, 6, some FieldType.long, [], rm_X5_total)
theorem tb_X5_total : ac_tb RX5 [] := fun q h => (by cases h)
theorem dy_X5_total : yX5_total.cls ≠ "java/lang/invoke/MethodHandle" ∧ yX5_total.cls ≠ "java/lang/invoke/VarHandle" ∧ (parseMethodDescriptor yX5_total.desc).map (fun d => d.parameters.length) = some 1 := by decide +kernel
def k_X5_total : List (Nat × ac_op) := [(0, op_iload 1 1),
  (1, op_callS rm_X5_total [] T_X5_requireRegister rm_X5_requireRegister 1 1 4),
  (4, op_aload 0 5),
  (5, op_iload 1 6),
  (6, op_callV rm_X5_total [] 8 T_X5_recordIn rm_X5_recordIn 1 6 9),
  (9, op_astore 2 10),
  (10, op_push (.long 0) 11),
  (11, op_lstore 3 12),
  (12, op_push (.int 0) 13),
  (13, op_istore 5 15),
  (15, op_iload 5 17),
  (17, op_push (.int 20) 19),
  (19, op_icmp (fun x y => y ≤ x) 44 22),
  (22, op_aload 2 23),
  (23, op_ifnull 44 26),
  (26, op_lload 3 27),
  (27, op_aload 2 28),
  (28, op_get 5 0 31),
  (31, op_ll (fun x y => x + y) 32),
  (32, op_lstore 3 33),
  (33, op_aload 2 34),
  (34, op_get 5 1 37),
  (37, op_astore 2 38),
  (38, op_iinc 5 1 41),
  (41, op_goto 15),
  (44, op_lload 3 45),
  (45, op_lreturn rm_X5_total)]
def T_X5_total : ac_T := ac_vc k_X5_total 6
set_option maxRecDepth 100000 in
set_option maxHeartbeats 4000000 in
theorem s_X5_total : ∀ x ∈ k_X5_total, ac_So M_X5_total (fun _ _ _ => False) x.1 x.2 :=
  ac_cons (so_iload_n dX5_total_0 rfl rfl) <|
  ac_cons (so_callS (N := M_X5_requireRegister) C_X5_requireRegister rfl ⟨wd_158, wd_24, dy_X5_requireRegister, ⟨by decide, by decide⟩, tb_X5_total⟩ dX5_total_1 wd_156 wd_157 rfl) <|
  ac_cons (so_aload_n dX5_total_4 rfl rfl) <|
  ac_cons (so_iload_n dX5_total_5 rfl rfl) <|
  ac_cons (so_callV (N := M_X5_recordIn) (ci := 8) C_X5_recordIn rfl ⟨wd_586, wd_24, dy_X5_recordIn, ⟨by decide, by decide⟩, tb_X5_total⟩ rfl dX5_total_6 wd_583 wd_585 wd_7 rfl) <|
  ac_cons (so_astore_n dX5_total_9 rfl rfl) <|
  ac_cons (so_lconst dX5_total_10 (by decide +kernel) rfl) <|
  ac_cons (so_lstore_n dX5_total_11 rfl rfl) <|
  ac_cons (so_iconst dX5_total_12 (by decide +kernel) rfl) <|
  ac_cons (so_istore dX5_total_13 rfl) <|
  ac_cons (so_iload dX5_total_15 rfl) <|
  ac_cons (so_bipush dX5_total_17 (by decide +kernel) rfl) <|
  ac_cons (so_icmp_ge dX5_total_19 (by decide) rfl) <|
  ac_cons (so_aload_n dX5_total_22 rfl rfl) <|
  ac_cons (so_ifnull dX5_total_23 (by decide) rfl) <|
  ac_cons (so_lload_n dX5_total_26 rfl rfl) <|
  ac_cons (so_aload_n dX5_total_27 rfl rfl) <|
  ac_cons (so_getN (ci := 5) (f := 0) rfl in_X2 (by decide) dX5_total_28 wd_250 rfl) <|
  ac_cons (so_ladd dX5_total_31 rfl) <|
  ac_cons (so_lstore_n dX5_total_32 rfl rfl) <|
  ac_cons (so_aload_n dX5_total_33 rfl rfl) <|
  ac_cons (so_getN (ci := 5) (f := 1) rfl in_X2 (by decide) dX5_total_34 wd_252 rfl) <|
  ac_cons (so_astore_n dX5_total_37 rfl rfl) <|
  ac_cons (so_iinc dX5_total_38 (by decide +kernel) rfl) <|
  ac_cons (so_goto dX5_total_41 (by decide)) <|
  ac_cons (so_lload_n dX5_total_44 rfl rfl) <|
  ac_cons (so_lreturn rfl dX5_total_45) <| ac_nil
theorem C_X5_total : ac_Ct yX5_total M_X5_total T_X5_total := ac_meth (by decide +kernel) rfl rfl rfl rfl s_X5_total
-- X5_reckon
abbrev rm_X5_reckon : Room := { frames := 7, cells := 2, slots := 12, locals := 102 }
abbrev M_X5_reckon : ac_D := (RX5, "reckon", cX5_reckon, 5, some FieldType.long, [], rm_X5_reckon)
theorem tb_X5_reckon : ac_tb RX5 [] := fun q h => (by cases h)
theorem dy_X5_reckon : yX5_reckon.cls ≠ "java/lang/invoke/MethodHandle" ∧ yX5_reckon.cls ≠ "java/lang/invoke/VarHandle" ∧ (parseMethodDescriptor yX5_reckon.desc).map (fun d => d.parameters.length) = some 3 := by decide +kernel
def k_X5_reckon : List (Nat × ac_op) := [(0, op_iload 0 1),
  (1, op_switch 52 [32, 36, 40, 44]),
  (32, op_lload 1 33),
  (33, op_lload 3 34),
  (34, op_ll (fun x y => x + y) 35),
  (35, op_lreturn rm_X5_reckon),
  (36, op_lload 1 37),
  (37, op_lload 3 38),
  (38, op_ll (fun x y => x - y) 39),
  (39, op_lreturn rm_X5_reckon),
  (40, op_lload 1 41),
  (41, op_lload 3 42),
  (42, op_ll (fun x y => x * y) 43),
  (43, op_lreturn rm_X5_reckon),
  (44, op_lload 3 45),
  (45, op_callS rm_X5_reckon [] T_X5_requireDivisor rm_X5_requireDivisor 1 45 48),
  (48, op_lload 1 49),
  (49, op_lload 3 50),
  (50, op_ldiv 51),
  (51, op_lreturn rm_X5_reckon),
  (52, op_lload 3 53),
  (53, op_callS rm_X5_reckon [] T_X5_requireDivisor rm_X5_requireDivisor 1 53 56),
  (56, op_lload 1 57),
  (57, op_lload 3 58),
  (58, op_lrem 59),
  (59, op_lreturn rm_X5_reckon)]
def T_X5_reckon : ac_T := ac_vc k_X5_reckon 5
set_option maxRecDepth 100000 in
set_option maxHeartbeats 4000000 in
theorem s_X5_reckon : ∀ x ∈ k_X5_reckon, ac_So M_X5_reckon (fun _ _ _ => False) x.1 x.2 :=
  ac_cons (so_iload_n dX5_reckon_0 rfl rfl) <|
  ac_cons (so_switch dX5_reckon_1 (by decide) (by decide) (by decide) (by decide)) <|
  ac_cons (so_lload_n dX5_reckon_32 rfl rfl) <|
  ac_cons (so_lload_n dX5_reckon_33 rfl rfl) <|
  ac_cons (so_ladd dX5_reckon_34 rfl) <|
  ac_cons (so_lreturn rfl dX5_reckon_35) <|
  ac_cons (so_lload_n dX5_reckon_36 rfl rfl) <|
  ac_cons (so_lload_n dX5_reckon_37 rfl rfl) <|
  ac_cons (so_lsub dX5_reckon_38 rfl) <|
  ac_cons (so_lreturn rfl dX5_reckon_39) <|
  ac_cons (so_lload_n dX5_reckon_40 rfl rfl) <|
  ac_cons (so_lload_n dX5_reckon_41 rfl rfl) <|
  ac_cons (so_lmul dX5_reckon_42 rfl) <|
  ac_cons (so_lreturn rfl dX5_reckon_43) <|
  ac_cons (so_lload_n dX5_reckon_44 rfl rfl) <|
  ac_cons (so_callS (N := M_X5_requireDivisor) C_X5_requireDivisor rfl ⟨wd_552, wd_24, dy_X5_requireDivisor, ⟨by decide, by decide⟩, tb_X5_reckon⟩ dX5_reckon_45 wd_550 wd_551 rfl) <|
  ac_cons (so_lload_n dX5_reckon_48 rfl rfl) <|
  ac_cons (so_lload_n dX5_reckon_49 rfl rfl) <|
  ac_cons (so_ldiv dX5_reckon_50 rfl) <|
  ac_cons (so_lreturn rfl dX5_reckon_51) <|
  ac_cons (so_lload_n dX5_reckon_52 rfl rfl) <|
  ac_cons (so_callS (N := M_X5_requireDivisor) C_X5_requireDivisor rfl ⟨wd_552, wd_24, dy_X5_requireDivisor, ⟨by decide, by decide⟩, tb_X5_reckon⟩ dX5_reckon_53 wd_550 wd_551 rfl) <|
  ac_cons (so_lload_n dX5_reckon_56 rfl rfl) <|
  ac_cons (so_lload_n dX5_reckon_57 rfl rfl) <|
  ac_cons (so_lrem dX5_reckon_58 rfl) <|
  ac_cons (so_lreturn rfl dX5_reckon_59) <| ac_nil
theorem C_X5_reckon : ac_Ct yX5_reckon M_X5_reckon T_X5_reckon := ac_meth (by decide +kernel) rfl rfl rfl rfl s_X5_reckon
-- X5_combine
abbrev rm_X5_combine : Room := { frames := 11, cells := 20, slots := 742, locals := 10310 }
abbrev M_X5_combine : ac_D := (RX5, "combine", cX5_combine, 15, some FieldType.long, [], rm_X5_combine)
theorem tb_X5_combine : ac_tb RX5 [] := fun q h => (by cases h)
theorem dy_X5_combine : yX5_combine.cls ≠ "java/lang/invoke/MethodHandle" ∧ yX5_combine.cls ≠ "java/lang/invoke/VarHandle" ∧ (parseMethodDescriptor yX5_combine.desc).map (fun d => d.parameters.length) = some 5 := by decide +kernel
def k_X5_combine : List (Nat × ac_op) := [(0, op_iload 1 1),
  (1, op_if (fun x => x < 0) 13 4),
  (4, op_iload 1 5),
  (5, op_push (.int 4) 6),
  (6, op_icmp (fun x y => y < x) 13 9),
  (9, op_push (.int 1) 10),
  (10, op_goto 14),
  (13, op_push (.int 0) 14),
  (14, op_callS rm_X5_combine [] T_X5_requireArgument rm_X5_requireArgument 1 14 17),
  (17, op_iload 2 18),
  (18, op_callS rm_X5_combine [] T_X5_requireRegister rm_X5_requireRegister 1 18 21),
  (21, op_iload 4 23),
  (23, op_callS rm_X5_combine [] T_X5_requireRegister rm_X5_requireRegister 1 23 26),
  (26, op_aload 0 27),
  (27, op_iload 2 28),
  (28, op_callV rm_X5_combine [] 8 T_X5_itemIn rm_X5_itemIn 1 28 31),
  (31, op_astore 6 33),
  (33, op_aload 0 34),
  (34, op_iload 4 36),
  (36, op_callV rm_X5_combine [] 8 T_X5_itemIn rm_X5_itemIn 1 36 39),
  (39, op_astore 7 41),
  (41, op_aload 6 43),
  (43, op_callU rm_X5_combine [] [(4, T_X0_sort, rm_X0_sort), (5, T_X2_sort, rm_X2_sort), (6, T_X3_sort, rm_X3_sort), (7, T_X4_sort, rm_X4_sort)] 0 43 46),
  (46, op_push (.int 5) 47),
  (47, op_icmp (fun x y => y < x) 63 50),
  (50, op_aload 7 52),
  (52, op_callU rm_X5_combine [] [(4, T_X0_sort, rm_X0_sort), (5, T_X2_sort, rm_X2_sort), (6, T_X3_sort, rm_X3_sort), (7, T_X4_sort, rm_X4_sort)] 0 52 55),
  (55, op_push (.int 5) 56),
  (56, op_icmp (fun x y => y < x) 63 59),
  (59, op_push (.int 1) 60),
  (60, op_goto 64),
  (63, op_push (.int 0) 64),
  (64, op_callS rm_X5_combine [] T_X5_requireSupported rm_X5_requireSupported 1 64 67),
  (67, op_aload 6 69),
  (69, op_iload 3 70),
  (70, op_callS rm_X5_combine [] T_X5_takeElement rm_X5_takeElement 2 70 73),
  (73, op_lstore 8 75),
  (75, op_aload 7 77),
  (77, op_iload 5 79),
  (79, op_callS rm_X5_combine [] T_X5_takeElement rm_X5_takeElement 2 79 82),
  (82, op_lstore 10 84),
  (84, op_iload 1 85),
  (85, op_lload 8 87),
  (87, op_lload 10 89),
  (89, op_callS rm_X5_combine [] T_X5_reckon rm_X5_reckon 3 89 92),
  (92, op_lstore 12 94),
  (94, op_aload 6 96),
  (96, op_callU rm_X5_combine [] [(4, T_X0_sort, rm_X0_sort), (5, T_X2_sort, rm_X2_sort), (6, T_X3_sort, rm_X3_sort), (7, T_X4_sort, rm_X4_sort)] 0 96 99),
  (99, op_push (.int 5) 100),
  (100, op_icmp (fun x y => y ≤ x) 116 103),
  (103, op_aload 7 105),
  (105, op_callU rm_X5_combine [] [(4, T_X0_sort, rm_X0_sort), (5, T_X2_sort, rm_X2_sort), (6, T_X3_sort, rm_X3_sort), (7, T_X4_sort, rm_X4_sort)] 0 105 108),
  (108, op_push (.int 5) 109),
  (109, op_icmp (fun x y => y ≤ x) 116 112),
  (112, op_push (.int 1) 113),
  (113, op_goto 117),
  (116, op_push (.int 0) 117),
  (117, op_istore 14 119),
  (119, op_aload 6 121),
  (121, op_iload 3 122),
  (122, op_iload 14 124),
  (124, op_if (fun x => x = 0) 134 127),
  (127, op_lload 12 129),
  (129, op_l (fun x => .int x.toInt32) 130),
  (130, op_i (fun x => .long x.toInt64) 131),
  (131, op_goto 136),
  (134, op_lload 12 136),
  (136, op_callS rm_X5_combine [] T_X5_putElement rm_X5_putElement 3 136 139),
  (139, op_lreturn rm_X5_combine)]
def T_X5_combine : ac_T := ac_vc k_X5_combine 15
set_option maxRecDepth 100000 in
set_option maxHeartbeats 4000000 in
theorem s_X5_combine : ∀ x ∈ k_X5_combine, ac_So M_X5_combine (fun _ _ _ => False) x.1 x.2 :=
  ac_cons (so_iload_n dX5_combine_0 rfl rfl) <|
  ac_cons (so_if_lt dX5_combine_1 (by decide) rfl) <|
  ac_cons (so_iload_n dX5_combine_4 rfl rfl) <|
  ac_cons (so_iconst dX5_combine_5 (by decide +kernel) rfl) <|
  ac_cons (so_icmp_gt dX5_combine_6 (by decide) rfl) <|
  ac_cons (so_iconst dX5_combine_9 (by decide +kernel) rfl) <|
  ac_cons (so_goto dX5_combine_10 (by decide)) <|
  ac_cons (so_iconst dX5_combine_13 (by decide +kernel) rfl) <|
  ac_cons (so_callS (N := M_X5_requireArgument) C_X5_requireArgument rfl ⟨wd_161, wd_24, dy_X5_requireArgument, ⟨by decide, by decide⟩, tb_X5_combine⟩ dX5_combine_14 wd_159 wd_160 rfl) <|
  ac_cons (so_iload_n dX5_combine_17 rfl rfl) <|
  ac_cons (so_callS (N := M_X5_requireRegister) C_X5_requireRegister rfl ⟨wd_158, wd_24, dy_X5_requireRegister, ⟨by decide, by decide⟩, tb_X5_combine⟩ dX5_combine_18 wd_156 wd_157 rfl) <|
  ac_cons (so_iload dX5_combine_21 rfl) <|
  ac_cons (so_callS (N := M_X5_requireRegister) C_X5_requireRegister rfl ⟨wd_158, wd_24, dy_X5_requireRegister, ⟨by decide, by decide⟩, tb_X5_combine⟩ dX5_combine_23 wd_156 wd_157 rfl) <|
  ac_cons (so_aload_n dX5_combine_26 rfl rfl) <|
  ac_cons (so_iload_n dX5_combine_27 rfl rfl) <|
  ac_cons (so_callV (N := M_X5_itemIn) (ci := 8) C_X5_itemIn rfl ⟨wd_290, wd_24, dy_X5_itemIn, ⟨by decide, by decide⟩, tb_X5_combine⟩ rfl dX5_combine_28 wd_287 wd_289 wd_3 rfl) <|
  ac_cons (so_astore dX5_combine_31 rfl) <|
  ac_cons (so_aload_n dX5_combine_33 rfl rfl) <|
  ac_cons (so_iload dX5_combine_34 rfl) <|
  ac_cons (so_callV (N := M_X5_itemIn) (ci := 8) C_X5_itemIn rfl ⟨wd_290, wd_24, dy_X5_itemIn, ⟨by decide, by decide⟩, tb_X5_combine⟩ rfl dX5_combine_36 wd_287 wd_289 wd_3 rfl) <|
  ac_cons (so_astore dX5_combine_39 rfl) <|
  ac_cons (so_aload dX5_combine_41 rfl) <|
  ac_cons (so_callU (M := M_X5_combine) (x := ⟨"TypedHall$Item", "sort", "()I"⟩) (ac_cons4 (⟨yX0_sort, M_X0_sort, _, C_X0_sort, rfl, rfl, ⟨wd_486, wd_34, dy_X0_sort, ⟨by decide, by decide⟩, tb_X5_combine⟩, rfl, wd_485, wd_484⟩) (⟨yX2_sort, M_X2_sort, _, C_X2_sort, rfl, rfl, ⟨wd_489, wd_35, dy_X2_sort, ⟨by decide, by decide⟩, tb_X5_combine⟩, rfl, wd_488, wd_487⟩) (⟨yX3_sort, M_X3_sort, _, C_X3_sort, rfl, rfl, ⟨wd_492, wd_33, dy_X3_sort, ⟨by decide, by decide⟩, tb_X5_combine⟩, rfl, wd_491, wd_490⟩) (⟨yX4_sort, M_X4_sort, _, C_X4_sort, rfl, rfl, ⟨wd_495, wd_39, dy_X4_sort, ⟨by decide, by decide⟩, tb_X5_combine⟩, rfl, wd_494, wd_493⟩)) (Or.inr wd_482) wd_483 ⟨by decide, by decide, by decide +kernel⟩ dX5_combine_43 wd_481 rfl) <|
  ac_cons (so_iconst dX5_combine_46 (by decide +kernel) rfl) <|
  ac_cons (so_icmp_gt dX5_combine_47 (by decide) rfl) <|
  ac_cons (so_aload dX5_combine_50 rfl) <|
  ac_cons (so_callU (M := M_X5_combine) (x := ⟨"TypedHall$Item", "sort", "()I"⟩) (ac_cons4 (⟨yX0_sort, M_X0_sort, _, C_X0_sort, rfl, rfl, ⟨wd_486, wd_34, dy_X0_sort, ⟨by decide, by decide⟩, tb_X5_combine⟩, rfl, wd_485, wd_484⟩) (⟨yX2_sort, M_X2_sort, _, C_X2_sort, rfl, rfl, ⟨wd_489, wd_35, dy_X2_sort, ⟨by decide, by decide⟩, tb_X5_combine⟩, rfl, wd_488, wd_487⟩) (⟨yX3_sort, M_X3_sort, _, C_X3_sort, rfl, rfl, ⟨wd_492, wd_33, dy_X3_sort, ⟨by decide, by decide⟩, tb_X5_combine⟩, rfl, wd_491, wd_490⟩) (⟨yX4_sort, M_X4_sort, _, C_X4_sort, rfl, rfl, ⟨wd_495, wd_39, dy_X4_sort, ⟨by decide, by decide⟩, tb_X5_combine⟩, rfl, wd_494, wd_493⟩)) (Or.inr wd_482) wd_483 ⟨by decide, by decide, by decide +kernel⟩ dX5_combine_52 wd_481 rfl) <|
  ac_cons (so_iconst dX5_combine_55 (by decide +kernel) rfl) <|
  ac_cons (so_icmp_gt dX5_combine_56 (by decide) rfl) <|
  ac_cons (so_iconst dX5_combine_59 (by decide +kernel) rfl) <|
  ac_cons (so_goto dX5_combine_60 (by decide)) <|
  ac_cons (so_iconst dX5_combine_63 (by decide +kernel) rfl) <|
  ac_cons (so_callS (N := M_X5_requireSupported) C_X5_requireSupported rfl ⟨wd_308, wd_24, dy_X5_requireSupported, ⟨by decide, by decide⟩, tb_X5_combine⟩ dX5_combine_64 wd_306 wd_307 rfl) <|
  ac_cons (so_aload dX5_combine_67 rfl) <|
  ac_cons (so_iload_n dX5_combine_69 rfl rfl) <|
  ac_cons (so_callS (N := M_X5_takeElement) C_X5_takeElement rfl ⟨wd_498, wd_24, dy_X5_takeElement, ⟨by decide, by decide⟩, tb_X5_combine⟩ dX5_combine_70 wd_496 wd_497 rfl) <|
  ac_cons (so_lstore dX5_combine_73 rfl) <|
  ac_cons (so_aload dX5_combine_75 rfl) <|
  ac_cons (so_iload dX5_combine_77 rfl) <|
  ac_cons (so_callS (N := M_X5_takeElement) C_X5_takeElement rfl ⟨wd_498, wd_24, dy_X5_takeElement, ⟨by decide, by decide⟩, tb_X5_combine⟩ dX5_combine_79 wd_496 wd_497 rfl) <|
  ac_cons (so_lstore dX5_combine_82 rfl) <|
  ac_cons (so_iload_n dX5_combine_84 rfl rfl) <|
  ac_cons (so_lload dX5_combine_85 rfl) <|
  ac_cons (so_lload dX5_combine_87 rfl) <|
  ac_cons (so_callS (N := M_X5_reckon) C_X5_reckon rfl ⟨wd_617, wd_24, dy_X5_reckon, ⟨by decide, by decide⟩, tb_X5_combine⟩ dX5_combine_89 wd_615 wd_616 rfl) <|
  ac_cons (so_lstore dX5_combine_92 rfl) <|
  ac_cons (so_aload dX5_combine_94 rfl) <|
  ac_cons (so_callU (M := M_X5_combine) (x := ⟨"TypedHall$Item", "sort", "()I"⟩) (ac_cons4 (⟨yX0_sort, M_X0_sort, _, C_X0_sort, rfl, rfl, ⟨wd_486, wd_34, dy_X0_sort, ⟨by decide, by decide⟩, tb_X5_combine⟩, rfl, wd_485, wd_484⟩) (⟨yX2_sort, M_X2_sort, _, C_X2_sort, rfl, rfl, ⟨wd_489, wd_35, dy_X2_sort, ⟨by decide, by decide⟩, tb_X5_combine⟩, rfl, wd_488, wd_487⟩) (⟨yX3_sort, M_X3_sort, _, C_X3_sort, rfl, rfl, ⟨wd_492, wd_33, dy_X3_sort, ⟨by decide, by decide⟩, tb_X5_combine⟩, rfl, wd_491, wd_490⟩) (⟨yX4_sort, M_X4_sort, _, C_X4_sort, rfl, rfl, ⟨wd_495, wd_39, dy_X4_sort, ⟨by decide, by decide⟩, tb_X5_combine⟩, rfl, wd_494, wd_493⟩)) (Or.inr wd_482) wd_483 ⟨by decide, by decide, by decide +kernel⟩ dX5_combine_96 wd_481 rfl) <|
  ac_cons (so_iconst dX5_combine_99 (by decide +kernel) rfl) <|
  ac_cons (so_icmp_ge dX5_combine_100 (by decide) rfl) <|
  ac_cons (so_aload dX5_combine_103 rfl) <|
  ac_cons (so_callU (M := M_X5_combine) (x := ⟨"TypedHall$Item", "sort", "()I"⟩) (ac_cons4 (⟨yX0_sort, M_X0_sort, _, C_X0_sort, rfl, rfl, ⟨wd_486, wd_34, dy_X0_sort, ⟨by decide, by decide⟩, tb_X5_combine⟩, rfl, wd_485, wd_484⟩) (⟨yX2_sort, M_X2_sort, _, C_X2_sort, rfl, rfl, ⟨wd_489, wd_35, dy_X2_sort, ⟨by decide, by decide⟩, tb_X5_combine⟩, rfl, wd_488, wd_487⟩) (⟨yX3_sort, M_X3_sort, _, C_X3_sort, rfl, rfl, ⟨wd_492, wd_33, dy_X3_sort, ⟨by decide, by decide⟩, tb_X5_combine⟩, rfl, wd_491, wd_490⟩) (⟨yX4_sort, M_X4_sort, _, C_X4_sort, rfl, rfl, ⟨wd_495, wd_39, dy_X4_sort, ⟨by decide, by decide⟩, tb_X5_combine⟩, rfl, wd_494, wd_493⟩)) (Or.inr wd_482) wd_483 ⟨by decide, by decide, by decide +kernel⟩ dX5_combine_105 wd_481 rfl) <|
  ac_cons (so_iconst dX5_combine_108 (by decide +kernel) rfl) <|
  ac_cons (so_icmp_ge dX5_combine_109 (by decide) rfl) <|
  ac_cons (so_iconst dX5_combine_112 (by decide +kernel) rfl) <|
  ac_cons (so_goto dX5_combine_113 (by decide)) <|
  ac_cons (so_iconst dX5_combine_116 (by decide +kernel) rfl) <|
  ac_cons (so_istore dX5_combine_117 rfl) <|
  ac_cons (so_aload dX5_combine_119 rfl) <|
  ac_cons (so_iload_n dX5_combine_121 rfl rfl) <|
  ac_cons (so_iload dX5_combine_122 rfl) <|
  ac_cons (so_if_eq dX5_combine_124 (by decide) rfl) <|
  ac_cons (so_lload dX5_combine_127 rfl) <|
  ac_cons (so_l2i dX5_combine_129 rfl) <|
  ac_cons (so_i2l dX5_combine_130 rfl) <|
  ac_cons (so_goto dX5_combine_131 (by decide)) <|
  ac_cons (so_lload dX5_combine_134 rfl) <|
  ac_cons (so_callS (N := M_X5_putElement) C_X5_putElement rfl ⟨wd_511, wd_24, dy_X5_putElement, ⟨by decide, by decide⟩, tb_X5_combine⟩ dX5_combine_136 wd_509 wd_510 rfl) <|
  ac_cons (so_lreturn rfl dX5_combine_139) <| ac_nil
theorem C_X5_combine : ac_Ct yX5_combine M_X5_combine T_X5_combine := ac_meth (by decide +kernel) rfl rfl rfl rfl s_X5_combine
-- X5_move
abbrev rm_X5_move : Room := { frames := 11, cells := 198, slots := 11080, locals := 10310 }
abbrev M_X5_move : ac_D := (RX5, "move", cX5_move, 11, some FieldType.int, [], rm_X5_move)
theorem tb_X5_move : ac_tb RX5 [] := fun q h => (by cases h)
theorem dy_X5_move : yX5_move.cls ≠ "java/lang/invoke/MethodHandle" ∧ yX5_move.cls ≠ "java/lang/invoke/VarHandle" ∧ (parseMethodDescriptor yX5_move.desc).map (fun d => d.parameters.length) = some 5 := by decide +kernel
def k_X5_move : List (Nat × ac_op) := [(0, op_iload 1 1),
  (1, op_callS rm_X5_move [] T_X5_requireRegister rm_X5_requireRegister 1 1 4),
  (4, op_iload 3 5),
  (5, op_callS rm_X5_move [] T_X5_requireRegister rm_X5_requireRegister 1 5 8),
  (8, op_iload 5 10),
  (10, op_if (fun x => x < 0) 24 13),
  (13, op_iload 5 15),
  (15, op_push (.int 24) 17),
  (17, op_icmp (fun x y => y < x) 24 20),
  (20, op_push (.int 1) 21),
  (21, op_goto 25),
  (24, op_push (.int 0) 25),
  (25, op_callS rm_X5_move [] T_X5_requireArgument rm_X5_requireArgument 1 25 28),
  (28, op_aload 0 29),
  (29, op_iload 1 30),
  (30, op_callV rm_X5_move [] 8 T_X5_itemIn rm_X5_itemIn 1 30 33),
  (33, op_astore 6 35),
  (35, op_aload 0 36),
  (36, op_iload 3 37),
  (37, op_callV rm_X5_move [] 8 T_X5_itemIn rm_X5_itemIn 1 37 40),
  (40, op_astore 7 42),
  (42, op_aload 6 44),
  (44, op_callU rm_X5_move [] [(4, T_X0_sort, rm_X0_sort), (5, T_X2_sort, rm_X2_sort), (6, T_X3_sort, rm_X3_sort), (7, T_X4_sort, rm_X4_sort)] 0 44 47),
  (47, op_push (.int 7) 49),
  (49, op_icmp (fun x y => y < x) 66 52),
  (52, op_aload 7 54),
  (54, op_callU rm_X5_move [] [(4, T_X0_sort, rm_X0_sort), (5, T_X2_sort, rm_X2_sort), (6, T_X3_sort, rm_X3_sort), (7, T_X4_sort, rm_X4_sort)] 0 54 57),
  (57, op_push (.int 7) 59),
  (59, op_icmp (fun x y => y < x) 66 62),
  (62, op_push (.int 1) 63),
  (63, op_goto 67),
  (66, op_push (.int 0) 67),
  (67, op_callS rm_X5_move [] T_X5_requireSupported rm_X5_requireSupported 1 67 70),
  (70, op_push (.int 0) 71),
  (71, op_istore 8 73),
  (73, op_iload 8 75),
  (75, op_iload 5 77),
  (77, op_icmp (fun x y => y ≤ x) 110 80),
  (80, op_aload 7 82),
  (82, op_iload 4 84),
  (84, op_iload 8 86),
  (86, op_ii (fun x y => x + y) 87),
  (87, op_callS rm_X5_move [] T_X5_takeElement rm_X5_takeElement 2 87 90),
  (90, op_lstore 9 92),
  (92, op_aload 6 94),
  (94, op_iload 2 95),
  (95, op_iload 8 97),
  (97, op_ii (fun x y => x + y) 98),
  (98, op_lload 9 100),
  (100, op_callS rm_X5_move [] T_X5_putElement rm_X5_putElement 3 100 103),
  (103, op_pop2 104),
  (104, op_iinc 8 1 107),
  (107, op_goto 73),
  (110, op_iload 5 112),
  (112, op_ireturn rm_X5_move)]
def T_X5_move : ac_T := ac_vc k_X5_move 11
set_option maxRecDepth 100000 in
set_option maxHeartbeats 4000000 in
theorem s_X5_move : ∀ x ∈ k_X5_move, ac_So M_X5_move (fun _ _ _ => False) x.1 x.2 :=
  ac_cons (so_iload_n dX5_move_0 rfl rfl) <|
  ac_cons (so_callS (N := M_X5_requireRegister) C_X5_requireRegister rfl ⟨wd_158, wd_24, dy_X5_requireRegister, ⟨by decide, by decide⟩, tb_X5_move⟩ dX5_move_1 wd_156 wd_157 rfl) <|
  ac_cons (so_iload_n dX5_move_4 rfl rfl) <|
  ac_cons (so_callS (N := M_X5_requireRegister) C_X5_requireRegister rfl ⟨wd_158, wd_24, dy_X5_requireRegister, ⟨by decide, by decide⟩, tb_X5_move⟩ dX5_move_5 wd_156 wd_157 rfl) <|
  ac_cons (so_iload dX5_move_8 rfl) <|
  ac_cons (so_if_lt dX5_move_10 (by decide) rfl) <|
  ac_cons (so_iload dX5_move_13 rfl) <|
  ac_cons (so_bipush dX5_move_15 (by decide +kernel) rfl) <|
  ac_cons (so_icmp_gt dX5_move_17 (by decide) rfl) <|
  ac_cons (so_iconst dX5_move_20 (by decide +kernel) rfl) <|
  ac_cons (so_goto dX5_move_21 (by decide)) <|
  ac_cons (so_iconst dX5_move_24 (by decide +kernel) rfl) <|
  ac_cons (so_callS (N := M_X5_requireArgument) C_X5_requireArgument rfl ⟨wd_161, wd_24, dy_X5_requireArgument, ⟨by decide, by decide⟩, tb_X5_move⟩ dX5_move_25 wd_159 wd_160 rfl) <|
  ac_cons (so_aload_n dX5_move_28 rfl rfl) <|
  ac_cons (so_iload_n dX5_move_29 rfl rfl) <|
  ac_cons (so_callV (N := M_X5_itemIn) (ci := 8) C_X5_itemIn rfl ⟨wd_290, wd_24, dy_X5_itemIn, ⟨by decide, by decide⟩, tb_X5_move⟩ rfl dX5_move_30 wd_287 wd_289 wd_3 rfl) <|
  ac_cons (so_astore dX5_move_33 rfl) <|
  ac_cons (so_aload_n dX5_move_35 rfl rfl) <|
  ac_cons (so_iload_n dX5_move_36 rfl rfl) <|
  ac_cons (so_callV (N := M_X5_itemIn) (ci := 8) C_X5_itemIn rfl ⟨wd_290, wd_24, dy_X5_itemIn, ⟨by decide, by decide⟩, tb_X5_move⟩ rfl dX5_move_37 wd_287 wd_289 wd_3 rfl) <|
  ac_cons (so_astore dX5_move_40 rfl) <|
  ac_cons (so_aload dX5_move_42 rfl) <|
  ac_cons (so_callU (M := M_X5_move) (x := ⟨"TypedHall$Item", "sort", "()I"⟩) (ac_cons4 (⟨yX0_sort, M_X0_sort, _, C_X0_sort, rfl, rfl, ⟨wd_486, wd_34, dy_X0_sort, ⟨by decide, by decide⟩, tb_X5_move⟩, rfl, wd_485, wd_484⟩) (⟨yX2_sort, M_X2_sort, _, C_X2_sort, rfl, rfl, ⟨wd_489, wd_35, dy_X2_sort, ⟨by decide, by decide⟩, tb_X5_move⟩, rfl, wd_488, wd_487⟩) (⟨yX3_sort, M_X3_sort, _, C_X3_sort, rfl, rfl, ⟨wd_492, wd_33, dy_X3_sort, ⟨by decide, by decide⟩, tb_X5_move⟩, rfl, wd_491, wd_490⟩) (⟨yX4_sort, M_X4_sort, _, C_X4_sort, rfl, rfl, ⟨wd_495, wd_39, dy_X4_sort, ⟨by decide, by decide⟩, tb_X5_move⟩, rfl, wd_494, wd_493⟩)) (Or.inr wd_482) wd_483 ⟨by decide, by decide, by decide +kernel⟩ dX5_move_44 wd_481 rfl) <|
  ac_cons (so_bipush dX5_move_47 (by decide +kernel) rfl) <|
  ac_cons (so_icmp_gt dX5_move_49 (by decide) rfl) <|
  ac_cons (so_aload dX5_move_52 rfl) <|
  ac_cons (so_callU (M := M_X5_move) (x := ⟨"TypedHall$Item", "sort", "()I"⟩) (ac_cons4 (⟨yX0_sort, M_X0_sort, _, C_X0_sort, rfl, rfl, ⟨wd_486, wd_34, dy_X0_sort, ⟨by decide, by decide⟩, tb_X5_move⟩, rfl, wd_485, wd_484⟩) (⟨yX2_sort, M_X2_sort, _, C_X2_sort, rfl, rfl, ⟨wd_489, wd_35, dy_X2_sort, ⟨by decide, by decide⟩, tb_X5_move⟩, rfl, wd_488, wd_487⟩) (⟨yX3_sort, M_X3_sort, _, C_X3_sort, rfl, rfl, ⟨wd_492, wd_33, dy_X3_sort, ⟨by decide, by decide⟩, tb_X5_move⟩, rfl, wd_491, wd_490⟩) (⟨yX4_sort, M_X4_sort, _, C_X4_sort, rfl, rfl, ⟨wd_495, wd_39, dy_X4_sort, ⟨by decide, by decide⟩, tb_X5_move⟩, rfl, wd_494, wd_493⟩)) (Or.inr wd_482) wd_483 ⟨by decide, by decide, by decide +kernel⟩ dX5_move_54 wd_481 rfl) <|
  ac_cons (so_bipush dX5_move_57 (by decide +kernel) rfl) <|
  ac_cons (so_icmp_gt dX5_move_59 (by decide) rfl) <|
  ac_cons (so_iconst dX5_move_62 (by decide +kernel) rfl) <|
  ac_cons (so_goto dX5_move_63 (by decide)) <|
  ac_cons (so_iconst dX5_move_66 (by decide +kernel) rfl) <|
  ac_cons (so_callS (N := M_X5_requireSupported) C_X5_requireSupported rfl ⟨wd_308, wd_24, dy_X5_requireSupported, ⟨by decide, by decide⟩, tb_X5_move⟩ dX5_move_67 wd_306 wd_307 rfl) <|
  ac_cons (so_iconst dX5_move_70 (by decide +kernel) rfl) <|
  ac_cons (so_istore dX5_move_71 rfl) <|
  ac_cons (so_iload dX5_move_73 rfl) <|
  ac_cons (so_iload dX5_move_75 rfl) <|
  ac_cons (so_icmp_ge dX5_move_77 (by decide) rfl) <|
  ac_cons (so_aload dX5_move_80 rfl) <|
  ac_cons (so_iload dX5_move_82 rfl) <|
  ac_cons (so_iload dX5_move_84 rfl) <|
  ac_cons (so_iadd dX5_move_86 rfl) <|
  ac_cons (so_callS (N := M_X5_takeElement) C_X5_takeElement rfl ⟨wd_498, wd_24, dy_X5_takeElement, ⟨by decide, by decide⟩, tb_X5_move⟩ dX5_move_87 wd_496 wd_497 rfl) <|
  ac_cons (so_lstore dX5_move_90 rfl) <|
  ac_cons (so_aload dX5_move_92 rfl) <|
  ac_cons (so_iload_n dX5_move_94 rfl rfl) <|
  ac_cons (so_iload dX5_move_95 rfl) <|
  ac_cons (so_iadd dX5_move_97 rfl) <|
  ac_cons (so_lload dX5_move_98 rfl) <|
  ac_cons (so_callS (N := M_X5_putElement) C_X5_putElement rfl ⟨wd_511, wd_24, dy_X5_putElement, ⟨by decide, by decide⟩, tb_X5_move⟩ dX5_move_100 wd_509 wd_510 rfl) <|
  ac_cons (so_pop2 dX5_move_103 rfl) <|
  ac_cons (so_iinc dX5_move_104 (by decide +kernel) rfl) <|
  ac_cons (so_goto dX5_move_107 (by decide)) <|
  ac_cons (so_iload dX5_move_110 rfl) <|
  ac_cons (so_ireturn rfl dX5_move_112) <| ac_nil
theorem C_X5_move : ac_Ct yX5_move M_X5_move T_X5_move := ac_meth (by decide +kernel) rfl rfl rfl rfl s_X5_move
