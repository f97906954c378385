/-! ===== the methods: data, code, contract ===== -/
-- L_make
abbrev rm_L_make : Room := { frames := 9, cells := 9, slots := 291, locals := 10284 }
abbrev M_L_make : ac_D := (RL, "make", cL_make, 6, some FieldType.int, [(0, 12, 15, 13), (0, 12, 19, 15)], rm_L_make)
theorem tb_L_make : ac_tb RL [(0, 12, 15, 13), (0, 12, 19, 15)] := by unfold ac_tb; decide +kernel
theorem dy_L_make : yL_make.cls ≠ "java/lang/invoke/MethodHandle" ∧ yL_make.cls ≠ "java/lang/invoke/VarHandle" ∧ (parseMethodDescriptor yL_make.desc).map (fun d => d.parameters.length) = some 5 := by decide +kernel
def k_L_make : List (Nat × ac_op) := [(0, op_aload 4 2),
  (2, op_push (.int 0) 3),
  (3, op_aload 0 4),
  (4, op_iload 1 5),
  (5, op_iload 2 6),
  (6, op_iload 3 7),
  (7, op_callV rm_L_make [(0, 12, 15, 13), (0, 12, 19, 15)] 8 T_X5_make rm_X5_make 3 7 10),
  (10, op_i (fun x => .long x.toInt64) 11),
  (11, op_last 12),
  (12, op_goto 23),
  (15, op_astore 5 17),
  (17, op_push (.int 1) 18),
  (18, op_ireturn rm_L_make),
  (19, op_astore 5 21),
  (21, op_push (.int 2) 22),
  (22, op_ireturn rm_L_make),
  (23, op_push (.int 0) 24),
  (24, op_ireturn rm_L_make)]
def T_L_make : ac_T := ac_vc k_L_make 6
set_option maxRecDepth 100000 in
set_option maxHeartbeats 4000000 in
theorem s_L_make : ∀ x ∈ k_L_make, ac_So M_L_make (fun _ _ _ => False) x.1 x.2 :=
  ac_cons (so_aload dL_make_0 rfl) <|
  ac_cons (so_iconst dL_make_2 (by decide +kernel) rfl) <|
  ac_cons (so_aload_n dL_make_3 rfl rfl) <|
  ac_cons (so_iload_n dL_make_4 rfl rfl) <|
  ac_cons (so_iload_n dL_make_5 rfl rfl) <|
  ac_cons (so_iload_n dL_make_6 rfl rfl) <|
  ac_cons (so_callV (N := M_X5_make) (ci := 8) C_X5_make rfl ⟨wd_155, wd_24, dy_X5_make, ⟨by decide, by decide⟩, tb_L_make⟩ rfl dL_make_7 wd_152 wd_153 wd_154 rfl) <|
  ac_cons (so_i2l dL_make_10 rfl) <|
  ac_cons (so_last dL_make_11 rfl) <|
  ac_cons (so_goto dL_make_12 (by decide)) <|
  ac_cons (so_astore dL_make_15 rfl) <|
  ac_cons (so_iconst dL_make_17 (by decide +kernel) rfl) <|
  ac_cons (so_ireturn rfl dL_make_18) <|
  ac_cons (so_astore dL_make_19 rfl) <|
  ac_cons (so_iconst dL_make_21 (by decide +kernel) rfl) <|
  ac_cons (so_ireturn rfl dL_make_22) <|
  ac_cons (so_iconst dL_make_23 (by decide +kernel) rfl) <|
  ac_cons (so_ireturn rfl dL_make_24) <| ac_nil
theorem C_L_make : ac_Ct yL_make M_L_make T_L_make := ac_methH (by decide +kernel) rfl rfl rfl s_L_make
-- L_grid
abbrev rm_L_grid : Room := { frames := 9, cells := 17, slots := 493, locals := 10284 }
abbrev M_L_grid : ac_D := (RL, "grid", cL_grid, 6, some FieldType.int, [(0, 12, 15, 13), (0, 12, 19, 15)], rm_L_grid)
theorem tb_L_grid : ac_tb RL [(0, 12, 15, 13), (0, 12, 19, 15)] := by unfold ac_tb; decide +kernel
theorem dy_L_grid : yL_grid.cls ≠ "java/lang/invoke/MethodHandle" ∧ yL_grid.cls ≠ "java/lang/invoke/VarHandle" ∧ (parseMethodDescriptor yL_grid.desc).map (fun d => d.parameters.length) = some 5 := by decide +kernel
def k_L_grid : List (Nat × ac_op) := [(0, op_aload 4 2),
  (2, op_push (.int 0) 3),
  (3, op_aload 0 4),
  (4, op_iload 1 5),
  (5, op_iload 2 6),
  (6, op_iload 3 7),
  (7, op_callV rm_L_grid [(0, 12, 15, 13), (0, 12, 19, 15)] 8 T_X5_grid rm_X5_grid 3 7 10),
  (10, op_i (fun x => .long x.toInt64) 11),
  (11, op_last 12),
  (12, op_goto 23),
  (15, op_astore 5 17),
  (17, op_push (.int 1) 18),
  (18, op_ireturn rm_L_grid),
  (19, op_astore 5 21),
  (21, op_push (.int 2) 22),
  (22, op_ireturn rm_L_grid),
  (23, op_push (.int 0) 24),
  (24, op_ireturn rm_L_grid)]
def T_L_grid : ac_T := ac_vc k_L_grid 6
set_option maxRecDepth 100000 in
set_option maxHeartbeats 4000000 in
theorem s_L_grid : ∀ x ∈ k_L_grid, ac_So M_L_grid (fun _ _ _ => False) x.1 x.2 :=
  ac_cons (so_aload dL_grid_0 rfl) <|
  ac_cons (so_iconst dL_grid_2 (by decide +kernel) rfl) <|
  ac_cons (so_aload_n dL_grid_3 rfl rfl) <|
  ac_cons (so_iload_n dL_grid_4 rfl rfl) <|
  ac_cons (so_iload_n dL_grid_5 rfl rfl) <|
  ac_cons (so_iload_n dL_grid_6 rfl rfl) <|
  ac_cons (so_callV (N := M_X5_grid) (ci := 8) C_X5_grid rfl ⟨wd_222, wd_24, dy_X5_grid, ⟨by decide, by decide⟩, tb_L_grid⟩ rfl dL_grid_7 wd_219 wd_220 wd_221 rfl) <|
  ac_cons (so_i2l dL_grid_10 rfl) <|
  ac_cons (so_last dL_grid_11 rfl) <|
  ac_cons (so_goto dL_grid_12 (by decide)) <|
  ac_cons (so_astore dL_grid_15 rfl) <|
  ac_cons (so_iconst dL_grid_17 (by decide +kernel) rfl) <|
  ac_cons (so_ireturn rfl dL_grid_18) <|
  ac_cons (so_astore dL_grid_19 rfl) <|
  ac_cons (so_iconst dL_grid_21 (by decide +kernel) rfl) <|
  ac_cons (so_ireturn rfl dL_grid_22) <|
  ac_cons (so_iconst dL_grid_23 (by decide +kernel) rfl) <|
  ac_cons (so_ireturn rfl dL_grid_24) <| ac_nil
theorem C_L_grid : ac_Ct yL_grid M_L_grid T_L_grid := ac_methH (by decide +kernel) rfl rfl rfl s_L_grid
-- L_record
abbrev rm_L_record : Room := { frames := 9, cells := 2, slots := 8, locals := 142 }
abbrev M_L_record : ac_D := (RL, "record", cL_record, 4, some FieldType.int, [(0, 9, 12, 13)], rm_L_record)
theorem tb_L_record : ac_tb RL [(0, 9, 12, 13)] := by unfold ac_tb; decide +kernel
theorem dy_L_record : yL_record.cls ≠ "java/lang/invoke/MethodHandle" ∧ yL_record.cls ≠ "java/lang/invoke/VarHandle" ∧ (parseMethodDescriptor yL_record.desc).map (fun d => d.parameters.length) = some 3 := by decide +kernel
def k_L_record : List (Nat × ac_op) := [(0, op_aload 2 1),
  (1, op_push (.int 0) 2),
  (2, op_aload 0 3),
  (3, op_iload 1 4),
  (4, op_callV rm_L_record [(0, 9, 12, 13)] 8 T_X5_record rm_X5_record 1 4 7),
  (7, op_i (fun x => .long x.toInt64) 8),
  (8, op_last 9),
  (9, op_goto 15),
  (12, op_astore 3 13),
  (13, op_push (.int 1) 14),
  (14, op_ireturn rm_L_record),
  (15, op_push (.int 0) 16),
  (16, op_ireturn rm_L_record)]
def T_L_record : ac_T := ac_vc k_L_record 4
set_option maxRecDepth 100000 in
set_option maxHeartbeats 4000000 in
theorem s_L_record : ∀ x ∈ k_L_record, ac_So M_L_record (fun _ _ _ => False) x.1 x.2 :=
  ac_cons (so_aload_n dL_record_0 rfl rfl) <|
  ac_cons (so_iconst dL_record_1 (by decide +kernel) rfl) <|
  ac_cons (so_aload_n dL_record_2 rfl rfl) <|
  ac_cons (so_iload_n dL_record_3 rfl rfl) <|
  ac_cons (so_callV (N := M_X5_record) (ci := 8) C_X5_record rfl ⟨wd_242, wd_24, dy_X5_record, ⟨by decide, by decide⟩, tb_L_record⟩ rfl dL_record_4 wd_239 wd_240 wd_241 rfl) <|
  ac_cons (so_i2l dL_record_7 rfl) <|
  ac_cons (so_last dL_record_8 rfl) <|
  ac_cons (so_goto dL_record_9 (by decide)) <|
  ac_cons (so_astore_n dL_record_12 rfl rfl) <|
  ac_cons (so_iconst dL_record_13 (by decide +kernel) rfl) <|
  ac_cons (so_ireturn rfl dL_record_14) <|
  ac_cons (so_iconst dL_record_15 (by decide +kernel) rfl) <|
  ac_cons (so_ireturn rfl dL_record_16) <| ac_nil
theorem C_L_record : ac_Ct yL_record M_L_record T_L_record := ac_methH (by decide +kernel) rfl rfl rfl s_L_record
-- L_window
abbrev rm_L_window : Room := { frames := 11, cells := 6, slots := 35, locals := 10309 }
abbrev M_L_window : ac_D := (RL, "window", cL_window, 6, some FieldType.int, [(0, 12, 15, 13), (0, 12, 19, 27), (0, 12, 23, 29), (0, 12, 27, 31)], rm_L_window)
theorem tb_L_window : ac_tb RL [(0, 12, 15, 13), (0, 12, 19, 27), (0, 12, 23, 29), (0, 12, 27, 31)] := by unfold ac_tb; decide +kernel
theorem dy_L_window : yL_window.cls ≠ "java/lang/invoke/MethodHandle" ∧ yL_window.cls ≠ "java/lang/invoke/VarHandle" ∧ (parseMethodDescriptor yL_window.desc).map (fun d => d.parameters.length) = some 5 := by decide +kernel
def k_L_window : List (Nat × ac_op) := [(0, op_aload 4 2),
  (2, op_push (.int 0) 3),
  (3, op_aload 0 4),
  (4, op_iload 1 5),
  (5, op_iload 2 6),
  (6, op_iload 3 7),
  (7, op_callV rm_L_window [(0, 12, 15, 13), (0, 12, 19, 27), (0, 12, 23, 29), (0, 12, 27, 31)] 8 T_X5_window rm_X5_window 3 7 10),
  (10, op_i (fun x => .long x.toInt64) 11),
  (11, op_last 12),
  (12, op_goto 31),
  (15, op_astore 5 17),
  (17, op_push (.int 1) 18),
  (18, op_ireturn rm_L_window),
  (19, op_astore 5 21),
  (21, op_push (.int 2) 22),
  (22, op_ireturn rm_L_window),
  (23, op_astore 5 25),
  (25, op_push (.int 3) 26),
  (26, op_ireturn rm_L_window),
  (27, op_astore 5 29),
  (29, op_push (.int 4) 30),
  (30, op_ireturn rm_L_window),
  (31, op_push (.int 0) 32),
  (32, op_ireturn rm_L_window)]
def T_L_window : ac_T := ac_vc k_L_window 6
set_option maxRecDepth 100000 in
set_option maxHeartbeats 4000000 in
theorem s_L_window : ∀ x ∈ k_L_window, ac_So M_L_window (fun _ _ _ => False) x.1 x.2 :=
  ac_cons (so_aload dL_window_0 rfl) <|
  ac_cons (so_iconst dL_window_2 (by decide +kernel) rfl) <|
  ac_cons (so_aload_n dL_window_3 rfl rfl) <|
  ac_cons (so_iload_n dL_window_4 rfl rfl) <|
  ac_cons (so_iload_n dL_window_5 rfl rfl) <|
  ac_cons (so_iload_n dL_window_6 rfl rfl) <|
  ac_cons (so_callV (N := M_X5_window) (ci := 8) C_X5_window rfl ⟨wd_286, wd_24, dy_X5_window, ⟨by decide, by decide⟩, tb_L_window⟩ rfl dL_window_7 wd_283 wd_284 wd_285 rfl) <|
  ac_cons (so_i2l dL_window_10 rfl) <|
  ac_cons (so_last dL_window_11 rfl) <|
  ac_cons (so_goto dL_window_12 (by decide)) <|
  ac_cons (so_astore dL_window_15 rfl) <|
  ac_cons (so_iconst dL_window_17 (by decide +kernel) rfl) <|
  ac_cons (so_ireturn rfl dL_window_18) <|
  ac_cons (so_astore dL_window_19 rfl) <|
  ac_cons (so_iconst dL_window_21 (by decide +kernel) rfl) <|
  ac_cons (so_ireturn rfl dL_window_22) <|
  ac_cons (so_astore dL_window_23 rfl) <|
  ac_cons (so_iconst dL_window_25 (by decide +kernel) rfl) <|
  ac_cons (so_ireturn rfl dL_window_26) <|
  ac_cons (so_astore dL_window_27 rfl) <|
  ac_cons (so_iconst dL_window_29 (by decide +kernel) rfl) <|
  ac_cons (so_ireturn rfl dL_window_30) <|
  ac_cons (so_iconst dL_window_31 (by decide +kernel) rfl) <|
  ac_cons (so_ireturn rfl dL_window_32) <| ac_nil
theorem C_L_window : ac_Ct yL_window M_L_window T_L_window := ac_methH (by decide +kernel) rfl rfl rfl s_L_window
-- L_copy
abbrev rm_L_copy : Room := { frames := 9, cells := 2, slots := 12, locals := 145 }
abbrev M_L_copy : ac_D := (RL, "copy", cL_copy, 5, some FieldType.int, [(0, 17, 20, 13)], rm_L_copy)
theorem tb_L_copy : ac_tb RL [(0, 17, 20, 13)] := by unfold ac_tb; decide +kernel
theorem dy_L_copy : yL_copy.cls ≠ "java/lang/invoke/MethodHandle" ∧ yL_copy.cls ≠ "java/lang/invoke/VarHandle" ∧ (parseMethodDescriptor yL_copy.desc).map (fun d => d.parameters.length) = some 4 := by decide +kernel
def k_L_copy : List (Nat × ac_op) := [(0, op_aload 3 1),
  (1, op_push (.int 0) 2),
  (2, op_aload 0 3),
  (3, op_iload 1 4),
  (4, op_iload 2 5),
  (5, op_callV rm_L_copy [(0, 17, 20, 13)] 8 T_X5_copy rm_X5_copy 2 5 8),
  (8, op_if (fun x => x = 0) 15 11),
  (11, op_push (.long 1) 12),
  (12, op_goto 16),
  (15, op_push (.long 0) 16),
  (16, op_last 17),
  (17, op_goto 24),
  (20, op_astore 4 22),
  (22, op_push (.int 1) 23),
  (23, op_ireturn rm_L_copy),
  (24, op_push (.int 0) 25),
  (25, op_ireturn rm_L_copy)]
def T_L_copy : ac_T := ac_vc k_L_copy 5
set_option maxRecDepth 100000 in
set_option maxHeartbeats 4000000 in
theorem s_L_copy : ∀ x ∈ k_L_copy, ac_So M_L_copy (fun _ _ _ => False) x.1 x.2 :=
  ac_cons (so_aload_n dL_copy_0 rfl rfl) <|
  ac_cons (so_iconst dL_copy_1 (by decide +kernel) rfl) <|
  ac_cons (so_aload_n dL_copy_2 rfl rfl) <|
  ac_cons (so_iload_n dL_copy_3 rfl rfl) <|
  ac_cons (so_iload_n dL_copy_4 rfl rfl) <|
  ac_cons (so_callV (N := M_X5_copy) (ci := 8) C_X5_copy rfl ⟨wd_381, wd_24, dy_X5_copy, ⟨by decide, by decide⟩, tb_L_copy⟩ rfl dL_copy_5 wd_378 wd_379 wd_380 rfl) <|
  ac_cons (so_if_eq dL_copy_8 (by decide) rfl) <|
  ac_cons (so_lconst dL_copy_11 (by decide +kernel) rfl) <|
  ac_cons (so_goto dL_copy_12 (by decide)) <|
  ac_cons (so_lconst dL_copy_15 (by decide +kernel) rfl) <|
  ac_cons (so_last dL_copy_16 rfl) <|
  ac_cons (so_goto dL_copy_17 (by decide)) <|
  ac_cons (so_astore dL_copy_20 rfl) <|
  ac_cons (so_iconst dL_copy_22 (by decide +kernel) rfl) <|
  ac_cons (so_ireturn rfl dL_copy_23) <|
  ac_cons (so_iconst dL_copy_24 (by decide +kernel) rfl) <|
  ac_cons (so_ireturn rfl dL_copy_25) <| ac_nil
theorem C_L_copy : ac_Ct yL_copy M_L_copy T_L_copy := ac_methH (by decide +kernel) rfl rfl rfl s_L_copy
-- L_lose
abbrev rm_L_lose : Room := { frames := 11, cells := 8, slots := 258, locals := 10308 }
abbrev M_L_lose : ac_D := (RL, "lose", cL_lose, 5, some FieldType.int, [(0, 10, 13, 13), (0, 10, 17, 27), (0, 10, 21, 29), (0, 10, 25, 41)], rm_L_lose)
theorem tb_L_lose : ac_tb RL [(0, 10, 13, 13), (0, 10, 17, 27), (0, 10, 21, 29), (0, 10, 25, 41)] := by unfold ac_tb; decide +kernel
theorem dy_L_lose : yL_lose.cls ≠ "java/lang/invoke/MethodHandle" ∧ yL_lose.cls ≠ "java/lang/invoke/VarHandle" ∧ (parseMethodDescriptor yL_lose.desc).map (fun d => d.parameters.length) = some 4 := by decide +kernel
def k_L_lose : List (Nat × ac_op) := [(0, op_aload 3 1),
  (1, op_push (.int 0) 2),
  (2, op_aload 0 3),
  (3, op_iload 1 4),
  (4, op_iload 2 5),
  (5, op_callV rm_L_lose [(0, 10, 13, 13), (0, 10, 17, 27), (0, 10, 21, 29), (0, 10, 25, 41)] 8 T_X5_lose rm_X5_lose 2 5 8),
  (8, op_i (fun x => .long x.toInt64) 9),
  (9, op_last 10),
  (10, op_goto 29),
  (13, op_astore 4 15),
  (15, op_push (.int 1) 16),
  (16, op_ireturn rm_L_lose),
  (17, op_astore 4 19),
  (19, op_push (.int 2) 20),
  (20, op_ireturn rm_L_lose),
  (21, op_astore 4 23),
  (23, op_push (.int 3) 24),
  (24, op_ireturn rm_L_lose),
  (25, op_astore 4 27),
  (27, op_push (.int 4) 28),
  (28, op_ireturn rm_L_lose),
  (29, op_push (.int 0) 30),
  (30, op_ireturn rm_L_lose)]
def T_L_lose : ac_T := ac_vc k_L_lose 5
set_option maxRecDepth 100000 in
set_option maxHeartbeats 4000000 in
theorem s_L_lose : ∀ x ∈ k_L_lose, ac_So M_L_lose (fun _ _ _ => False) x.1 x.2 :=
  ac_cons (so_aload_n dL_lose_0 rfl rfl) <|
  ac_cons (so_iconst dL_lose_1 (by decide +kernel) rfl) <|
  ac_cons (so_aload_n dL_lose_2 rfl rfl) <|
  ac_cons (so_iload_n dL_lose_3 rfl rfl) <|
  ac_cons (so_iload_n dL_lose_4 rfl rfl) <|
  ac_cons (so_callV (N := M_X5_lose) (ci := 8) C_X5_lose rfl ⟨wd_407, wd_24, dy_X5_lose, ⟨by decide, by decide⟩, tb_L_lose⟩ rfl dL_lose_5 wd_404 wd_405 wd_406 rfl) <|
  ac_cons (so_i2l dL_lose_8 rfl) <|
  ac_cons (so_last dL_lose_9 rfl) <|
  ac_cons (so_goto dL_lose_10 (by decide)) <|
  ac_cons (so_astore dL_lose_13 rfl) <|
  ac_cons (so_iconst dL_lose_15 (by decide +kernel) rfl) <|
  ac_cons (so_ireturn rfl dL_lose_16) <|
  ac_cons (so_astore dL_lose_17 rfl) <|
  ac_cons (so_iconst dL_lose_19 (by decide +kernel) rfl) <|
  ac_cons (so_ireturn rfl dL_lose_20) <|
  ac_cons (so_astore dL_lose_21 rfl) <|
  ac_cons (so_iconst dL_lose_23 (by decide +kernel) rfl) <|
  ac_cons (so_ireturn rfl dL_lose_24) <|
  ac_cons (so_astore dL_lose_25 rfl) <|
  ac_cons (so_iconst dL_lose_27 (by decide +kernel) rfl) <|
  ac_cons (so_ireturn rfl dL_lose_28) <|
  ac_cons (so_iconst dL_lose_29 (by decide +kernel) rfl) <|
  ac_cons (so_ireturn rfl dL_lose_30) <| ac_nil
theorem C_L_lose : ac_Ct yL_lose M_L_lose T_L_lose := ac_methH (by decide +kernel) rfl rfl rfl s_L_lose
-- L_resize
abbrev rm_L_resize : Room := { frames := 11, cells := 11, slots := 328, locals := 10307 }
abbrev M_L_resize : ac_D := (RL, "resize", cL_resize, 5, some FieldType.int, [(0, 10, 13, 13), (0, 10, 17, 27), (0, 10, 21, 29), (0, 10, 25, 15)], rm_L_resize)
theorem tb_L_resize : ac_tb RL [(0, 10, 13, 13), (0, 10, 17, 27), (0, 10, 21, 29), (0, 10, 25, 15)] := by unfold ac_tb; decide +kernel
theorem dy_L_resize : yL_resize.cls ≠ "java/lang/invoke/MethodHandle" ∧ yL_resize.cls ≠ "java/lang/invoke/VarHandle" ∧ (parseMethodDescriptor yL_resize.desc).map (fun d => d.parameters.length) = some 4 := by decide +kernel
def k_L_resize : List (Nat × ac_op) := [(0, op_aload 3 1),
  (1, op_push (.int 0) 2),
  (2, op_aload 0 3),
  (3, op_iload 1 4),
  (4, op_iload 2 5),
  (5, op_callV rm_L_resize [(0, 10, 13, 13), (0, 10, 17, 27), (0, 10, 21, 29), (0, 10, 25, 15)] 8 T_X5_resize rm_X5_resize 2 5 8),
  (8, op_i (fun x => .long x.toInt64) 9),
  (9, op_last 10),
  (10, op_goto 29),
  (13, op_astore 4 15),
  (15, op_push (.int 1) 16),
  (16, op_ireturn rm_L_resize),
  (17, op_astore 4 19),
  (19, op_push (.int 2) 20),
  (20, op_ireturn rm_L_resize),
  (21, op_astore 4 23),
  (23, op_push (.int 3) 24),
  (24, op_ireturn rm_L_resize),
  (25, op_astore 4 27),
  (27, op_push (.int 4) 28),
  (28, op_ireturn rm_L_resize),
  (29, op_push (.int 0) 30),
  (30, op_ireturn rm_L_resize)]
def T_L_resize : ac_T := ac_vc k_L_resize 5
set_option maxRecDepth 100000 in
set_option maxHeartbeats 4000000 in
theorem s_L_resize : ∀ x ∈ k_L_resize, ac_So M_L_resize (fun _ _ _ => False) x.1 x.2 :=
  ac_cons (so_aload_n dL_resize_0 rfl rfl) <|
  ac_cons (so_iconst dL_resize_1 (by decide +kernel) rfl) <|
  ac_cons (so_aload_n dL_resize_2 rfl rfl) <|
  ac_cons (so_iload_n dL_resize_3 rfl rfl) <|
  ac_cons (so_iload_n dL_resize_4 rfl rfl) <|
  ac_cons (so_callV (N := M_X5_resize) (ci := 8) C_X5_resize rfl ⟨wd_440, wd_24, dy_X5_resize, ⟨by decide, by decide⟩, tb_L_resize⟩ rfl dL_resize_5 wd_437 wd_438 wd_439 rfl) <|
  ac_cons (so_i2l dL_resize_8 rfl) <|
  ac_cons (so_last dL_resize_9 rfl) <|
  ac_cons (so_goto dL_resize_10 (by decide)) <|
  ac_cons (so_astore dL_resize_13 rfl) <|
  ac_cons (so_iconst dL_resize_15 (by decide +kernel) rfl) <|
  ac_cons (so_ireturn rfl dL_resize_16) <|
  ac_cons (so_astore dL_resize_17 rfl) <|
  ac_cons (so_iconst dL_resize_19 (by decide +kernel) rfl) <|
  ac_cons (so_ireturn rfl dL_resize_20) <|
  ac_cons (so_astore dL_resize_21 rfl) <|
  ac_cons (so_iconst dL_resize_23 (by decide +kernel) rfl) <|
  ac_cons (so_ireturn rfl dL_resize_24) <|
  ac_cons (so_astore dL_resize_25 rfl) <|
  ac_cons (so_iconst dL_resize_27 (by decide +kernel) rfl) <|
  ac_cons (so_ireturn rfl dL_resize_28) <|
  ac_cons (so_iconst dL_resize_29 (by decide +kernel) rfl) <|
  ac_cons (so_ireturn rfl dL_resize_30) <| ac_nil
theorem C_L_resize : ac_Ct yL_resize M_L_resize T_L_resize := ac_methH (by decide +kernel) rfl rfl rfl s_L_resize
-- L_size
abbrev rm_L_size : Room := { frames := 11, cells := 4, slots := 28, locals := 10307 }
abbrev M_L_size : ac_D := (RL, "size", cL_size, 4, some FieldType.int, [(0, 9, 12, 13), (0, 9, 15, 27), (0, 9, 18, 29)], rm_L_size)
theorem tb_L_size : ac_tb RL [(0, 9, 12, 13), (0, 9, 15, 27), (0, 9, 18, 29)] := by unfold ac_tb; decide +kernel
theorem dy_L_size : yL_size.cls ≠ "java/lang/invoke/MethodHandle" ∧ yL_size.cls ≠ "java/lang/invoke/VarHandle" ∧ (parseMethodDescriptor yL_size.desc).map (fun d => d.parameters.length) = some 3 := by decide +kernel
def k_L_size : List (Nat × ac_op) := [(0, op_aload 2 1),
  (1, op_push (.int 0) 2),
  (2, op_aload 0 3),
  (3, op_iload 1 4),
  (4, op_callV rm_L_size [(0, 9, 12, 13), (0, 9, 15, 27), (0, 9, 18, 29)] 8 T_X5_size rm_X5_size 1 4 7),
  (7, op_i (fun x => .long x.toInt64) 8),
  (8, op_last 9),
  (9, op_goto 21),
  (12, op_astore 3 13),
  (13, op_push (.int 1) 14),
  (14, op_ireturn rm_L_size),
  (15, op_astore 3 16),
  (16, op_push (.int 2) 17),
  (17, op_ireturn rm_L_size),
  (18, op_astore 3 19),
  (19, op_push (.int 3) 20),
  (20, op_ireturn rm_L_size),
  (21, op_push (.int 0) 22),
  (22, op_ireturn rm_L_size)]
def T_L_size : ac_T := ac_vc k_L_size 4
set_option maxRecDepth 100000 in
set_option maxHeartbeats 4000000 in
theorem s_L_size : ∀ x ∈ k_L_size, ac_So M_L_size (fun _ _ _ => False) x.1 x.2 :=
  ac_cons (so_aload_n dL_size_0 rfl rfl) <|
  ac_cons (so_iconst dL_size_1 (by decide +kernel) rfl) <|
  ac_cons (so_aload_n dL_size_2 rfl rfl) <|
  ac_cons (so_iload_n dL_size_3 rfl rfl) <|
  ac_cons (so_callV (N := M_X5_size) (ci := 8) C_X5_size rfl ⟨wd_473, wd_24, dy_X5_size, ⟨by decide, by decide⟩, tb_L_size⟩ rfl dL_size_4 wd_470 wd_471 wd_472 rfl) <|
  ac_cons (so_i2l dL_size_7 rfl) <|
  ac_cons (so_last dL_size_8 rfl) <|
  ac_cons (so_goto dL_size_9 (by decide)) <|
  ac_cons (so_astore_n dL_size_12 rfl rfl) <|
  ac_cons (so_iconst dL_size_13 (by decide +kernel) rfl) <|
  ac_cons (so_ireturn rfl dL_size_14) <|
  ac_cons (so_astore_n dL_size_15 rfl rfl) <|
  ac_cons (so_iconst dL_size_16 (by decide +kernel) rfl) <|
  ac_cons (so_ireturn rfl dL_size_17) <|
  ac_cons (so_astore_n dL_size_18 rfl rfl) <|
  ac_cons (so_iconst dL_size_19 (by decide +kernel) rfl) <|
  ac_cons (so_ireturn rfl dL_size_20) <|
  ac_cons (so_iconst dL_size_21 (by decide +kernel) rfl) <|
  ac_cons (so_ireturn rfl dL_size_22) <| ac_nil
theorem C_L_size : ac_Ct yL_size M_L_size T_L_size := ac_methH (by decide +kernel) rfl rfl rfl s_L_size
-- L_take
abbrev rm_L_take : Room := { frames := 12, cells := 7, slots := 250, locals := 10330 }
abbrev M_L_take : ac_D := (RL, "take", cL_take, 5, some FieldType.int, [(0, 9, 12, 13), (0, 9, 16, 27), (0, 9, 20, 29), (0, 9, 24, 41)], rm_L_take)
theorem tb_L_take : ac_tb RL [(0, 9, 12, 13), (0, 9, 16, 27), (0, 9, 20, 29), (0, 9, 24, 41)] := by unfold ac_tb; decide +kernel
theorem dy_L_take : yL_take.cls ≠ "java/lang/invoke/MethodHandle" ∧ yL_take.cls ≠ "java/lang/invoke/VarHandle" ∧ (parseMethodDescriptor yL_take.desc).map (fun d => d.parameters.length) = some 4 := by decide +kernel
def k_L_take : List (Nat × ac_op) := [(0, op_aload 3 1),
  (1, op_push (.int 0) 2),
  (2, op_aload 0 3),
  (3, op_iload 1 4),
  (4, op_iload 2 5),
  (5, op_callV rm_L_take [(0, 9, 12, 13), (0, 9, 16, 27), (0, 9, 20, 29), (0, 9, 24, 41)] 8 T_X5_take rm_X5_take 2 5 8),
  (8, op_last 9),
  (9, op_goto 28),
  (12, op_astore 4 14),
  (14, op_push (.int 1) 15),
  (15, op_ireturn rm_L_take),
  (16, op_astore 4 18),
  (18, op_push (.int 2) 19),
  (19, op_ireturn rm_L_take),
  (20, op_astore 4 22),
  (22, op_push (.int 3) 23),
  (23, op_ireturn rm_L_take),
  (24, op_astore 4 26),
  (26, op_push (.int 4) 27),
  (27, op_ireturn rm_L_take),
  (28, op_push (.int 0) 29),
  (29, op_ireturn rm_L_take)]
def T_L_take : ac_T := ac_vc k_L_take 5
set_option maxRecDepth 100000 in
set_option maxHeartbeats 4000000 in
theorem s_L_take : ∀ x ∈ k_L_take, ac_So M_L_take (fun _ _ _ => False) x.1 x.2 :=
  ac_cons (so_aload_n dL_take_0 rfl rfl) <|
  ac_cons (so_iconst dL_take_1 (by decide +kernel) rfl) <|
  ac_cons (so_aload_n dL_take_2 rfl rfl) <|
  ac_cons (so_iload_n dL_take_3 rfl rfl) <|
  ac_cons (so_iload_n dL_take_4 rfl rfl) <|
  ac_cons (so_callV (N := M_X5_take) (ci := 8) C_X5_take rfl ⟨wd_480, wd_24, dy_X5_take, ⟨by decide, by decide⟩, tb_L_take⟩ rfl dL_take_5 wd_477 wd_478 wd_479 rfl) <|
  ac_cons (so_last dL_take_8 rfl) <|
  ac_cons (so_goto dL_take_9 (by decide)) <|
  ac_cons (so_astore dL_take_12 rfl) <|
  ac_cons (so_iconst dL_take_14 (by decide +kernel) rfl) <|
  ac_cons (so_ireturn rfl dL_take_15) <|
  ac_cons (so_astore dL_take_16 rfl) <|
  ac_cons (so_iconst dL_take_18 (by decide +kernel) rfl) <|
  ac_cons (so_ireturn rfl dL_take_19) <|
  ac_cons (so_astore dL_take_20 rfl) <|
  ac_cons (so_iconst dL_take_22 (by decide +kernel) rfl) <|
  ac_cons (so_ireturn rfl dL_take_23) <|
  ac_cons (so_astore dL_take_24 rfl) <|
  ac_cons (so_iconst dL_take_26 (by decide +kernel) rfl) <|
  ac_cons (so_ireturn rfl dL_take_27) <|
  ac_cons (so_iconst dL_take_28 (by decide +kernel) rfl) <|
  ac_cons (so_ireturn rfl dL_take_29) <| ac_nil
theorem C_L_take : ac_Ct yL_take M_L_take T_L_take := ac_methH (by decide +kernel) rfl rfl rfl s_L_take
-- L_put
abbrev rm_L_put : Room := { frames := 12, cells := 7, slots := 250, locals := 10335 }
abbrev M_L_put : ac_D := (RL, "put", cL_put, 7, some FieldType.int, [(0, 11, 14, 13), (0, 11, 18, 27), (0, 11, 22, 29), (0, 11, 26, 41)], rm_L_put)
theorem tb_L_put : ac_tb RL [(0, 11, 14, 13), (0, 11, 18, 27), (0, 11, 22, 29), (0, 11, 26, 41)] := by unfold ac_tb; decide +kernel
theorem dy_L_put : yL_put.cls ≠ "java/lang/invoke/MethodHandle" ∧ yL_put.cls ≠ "java/lang/invoke/VarHandle" ∧ (parseMethodDescriptor yL_put.desc).map (fun d => d.parameters.length) = some 5 := by decide +kernel
def k_L_put : List (Nat × ac_op) := [(0, op_aload 5 2),
  (2, op_push (.int 0) 3),
  (3, op_aload 0 4),
  (4, op_iload 1 5),
  (5, op_iload 2 6),
  (6, op_lload 3 7),
  (7, op_callV rm_L_put [(0, 11, 14, 13), (0, 11, 18, 27), (0, 11, 22, 29), (0, 11, 26, 41)] 8 T_X5_put rm_X5_put 3 7 10),
  (10, op_last 11),
  (11, op_goto 30),
  (14, op_astore 6 16),
  (16, op_push (.int 1) 17),
  (17, op_ireturn rm_L_put),
  (18, op_astore 6 20),
  (20, op_push (.int 2) 21),
  (21, op_ireturn rm_L_put),
  (22, op_astore 6 24),
  (24, op_push (.int 3) 25),
  (25, op_ireturn rm_L_put),
  (26, op_astore 6 28),
  (28, op_push (.int 4) 29),
  (29, op_ireturn rm_L_put),
  (30, op_push (.int 0) 31),
  (31, op_ireturn rm_L_put)]
def T_L_put : ac_T := ac_vc k_L_put 7
set_option maxRecDepth 100000 in
set_option maxHeartbeats 4000000 in
theorem s_L_put : ∀ x ∈ k_L_put, ac_So M_L_put (fun _ _ _ => False) x.1 x.2 :=
  ac_cons (so_aload dL_put_0 rfl) <|
  ac_cons (so_iconst dL_put_2 (by decide +kernel) rfl) <|
  ac_cons (so_aload_n dL_put_3 rfl rfl) <|
  ac_cons (so_iload_n dL_put_4 rfl rfl) <|
  ac_cons (so_iload_n dL_put_5 rfl rfl) <|
  ac_cons (so_lload_n dL_put_6 rfl rfl) <|
  ac_cons (so_callV (N := M_X5_put) (ci := 8) C_X5_put rfl ⟨wd_508, wd_24, dy_X5_put, ⟨by decide, by decide⟩, tb_L_put⟩ rfl dL_put_7 wd_505 wd_506 wd_507 rfl) <|
  ac_cons (so_last dL_put_10 rfl) <|
  ac_cons (so_goto dL_put_11 (by decide)) <|
  ac_cons (so_astore dL_put_14 rfl) <|
  ac_cons (so_iconst dL_put_16 (by decide +kernel) rfl) <|
  ac_cons (so_ireturn rfl dL_put_17) <|
  ac_cons (so_astore dL_put_18 rfl) <|
  ac_cons (so_iconst dL_put_20 (by decide +kernel) rfl) <|
  ac_cons (so_ireturn rfl dL_put_21) <|
  ac_cons (so_astore dL_put_22 rfl) <|
  ac_cons (so_iconst dL_put_24 (by decide +kernel) rfl) <|
  ac_cons (so_ireturn rfl dL_put_25) <|
  ac_cons (so_astore dL_put_26 rfl) <|
  ac_cons (so_iconst dL_put_28 (by decide +kernel) rfl) <|
  ac_cons (so_ireturn rfl dL_put_29) <|
  ac_cons (so_iconst dL_put_30 (by decide +kernel) rfl) <|
  ac_cons (so_ireturn rfl dL_put_31) <| ac_nil
theorem C_L_put : ac_Ct yL_put M_L_put T_L_put := ac_methH (by decide +kernel) rfl rfl rfl s_L_put
-- L_cell
abbrev rm_L_cell : Room := { frames := 11, cells := 10, slots := 472, locals := 10310 }
abbrev M_L_cell : ac_D := (RL, "cell", cL_cell, 6, some FieldType.int, [(0, 12, 15, 13), (0, 12, 19, 29), (0, 12, 23, 27), (0, 12, 27, 41)], rm_L_cell)
theorem tb_L_cell : ac_tb RL [(0, 12, 15, 13), (0, 12, 19, 29), (0, 12, 23, 27), (0, 12, 27, 41)] := by unfold ac_tb; decide +kernel
theorem dy_L_cell : yL_cell.cls ≠ "java/lang/invoke/MethodHandle" ∧ yL_cell.cls ≠ "java/lang/invoke/VarHandle" ∧ (parseMethodDescriptor yL_cell.desc).map (fun d => d.parameters.length) = some 5 := by decide +kernel
def k_L_cell : List (Nat × ac_op) := [(0, op_aload 4 2),
  (2, op_push (.int 0) 3),
  (3, op_aload 0 4),
  (4, op_iload 1 5),
  (5, op_iload 2 6),
  (6, op_iload 3 7),
  (7, op_callV rm_L_cell [(0, 12, 15, 13), (0, 12, 19, 29), (0, 12, 23, 27), (0, 12, 27, 41)] 8 T_X5_cell rm_X5_cell 3 7 10),
  (10, op_i (fun x => .long x.toInt64) 11),
  (11, op_last 12),
  (12, op_goto 31),
  (15, op_astore 5 17),
  (17, op_push (.int 1) 18),
  (18, op_ireturn rm_L_cell),
  (19, op_astore 5 21),
  (21, op_push (.int 2) 22),
  (22, op_ireturn rm_L_cell),
  (23, op_astore 5 25),
  (25, op_push (.int 3) 26),
  (26, op_ireturn rm_L_cell),
  (27, op_astore 5 29),
  (29, op_push (.int 4) 30),
  (30, op_ireturn rm_L_cell),
  (31, op_push (.int 0) 32),
  (32, op_ireturn rm_L_cell)]
def T_L_cell : ac_T := ac_vc k_L_cell 6
set_option maxRecDepth 100000 in
set_option maxHeartbeats 4000000 in
theorem s_L_cell : ∀ x ∈ k_L_cell, ac_So M_L_cell (fun _ _ _ => False) x.1 x.2 :=
  ac_cons (so_aload dL_cell_0 rfl) <|
  ac_cons (so_iconst dL_cell_2 (by decide +kernel) rfl) <|
  ac_cons (so_aload_n dL_cell_3 rfl rfl) <|
  ac_cons (so_iload_n dL_cell_4 rfl rfl) <|
  ac_cons (so_iload_n dL_cell_5 rfl rfl) <|
  ac_cons (so_iload_n dL_cell_6 rfl rfl) <|
  ac_cons (so_callV (N := M_X5_cell) (ci := 8) C_X5_cell rfl ⟨wd_521, wd_24, dy_X5_cell, ⟨by decide, by decide⟩, tb_L_cell⟩ rfl dL_cell_7 wd_518 wd_519 wd_520 rfl) <|
  ac_cons (so_i2l dL_cell_10 rfl) <|
  ac_cons (so_last dL_cell_11 rfl) <|
  ac_cons (so_goto dL_cell_12 (by decide)) <|
  ac_cons (so_astore dL_cell_15 rfl) <|
  ac_cons (so_iconst dL_cell_17 (by decide +kernel) rfl) <|
  ac_cons (so_ireturn rfl dL_cell_18) <|
  ac_cons (so_astore dL_cell_19 rfl) <|
  ac_cons (so_iconst dL_cell_21 (by decide +kernel) rfl) <|
  ac_cons (so_ireturn rfl dL_cell_22) <|
  ac_cons (so_astore dL_cell_23 rfl) <|
  ac_cons (so_iconst dL_cell_25 (by decide +kernel) rfl) <|
  ac_cons (so_ireturn rfl dL_cell_26) <|
  ac_cons (so_astore dL_cell_27 rfl) <|
  ac_cons (so_iconst dL_cell_29 (by decide +kernel) rfl) <|
  ac_cons (so_ireturn rfl dL_cell_30) <|
  ac_cons (so_iconst dL_cell_31 (by decide +kernel) rfl) <|
  ac_cons (so_ireturn rfl dL_cell_32) <| ac_nil
theorem C_L_cell : ac_Ct yL_cell M_L_cell T_L_cell := ac_methH (by decide +kernel) rfl rfl rfl s_L_cell
-- L_setCell
abbrev rm_L_setCell : Room := { frames := 11, cells := 11, slots := 478, locals := 10312 }
abbrev M_L_setCell : ac_D := (RL, "setCell", cL_setCell, 7, some FieldType.int, [(0, 11, 14, 13), (0, 11, 18, 29), (0, 11, 22, 27), (0, 11, 26, 41), (0, 11, 30, 64)], rm_L_setCell)
theorem tb_L_setCell : ac_tb RL [(0, 11, 14, 13), (0, 11, 18, 29), (0, 11, 22, 27), (0, 11, 26, 41), (0, 11, 30, 64)] := by unfold ac_tb; decide +kernel
theorem dy_L_setCell : yL_setCell.cls ≠ "java/lang/invoke/MethodHandle" ∧ yL_setCell.cls ≠ "java/lang/invoke/VarHandle" ∧ (parseMethodDescriptor yL_setCell.desc).map (fun d => d.parameters.length) = some 6 := by decide +kernel
def k_L_setCell : List (Nat × ac_op) := [(0, op_aload 0 1),
  (1, op_iload 1 2),
  (2, op_iload 2 3),
  (3, op_iload 3 4),
  (4, op_iload 4 6),
  (6, op_iload 5 8),
  (8, op_callV rm_L_setCell [(0, 11, 14, 13), (0, 11, 18, 29), (0, 11, 22, 27), (0, 11, 26, 41), (0, 11, 30, 64)] 8 T_X5_setCell rm_X5_setCell 5 8 11),
  (11, op_goto 34),
  (14, op_astore 6 16),
  (16, op_push (.int 1) 17),
  (17, op_ireturn rm_L_setCell),
  (18, op_astore 6 20),
  (20, op_push (.int 2) 21),
  (21, op_ireturn rm_L_setCell),
  (22, op_astore 6 24),
  (24, op_push (.int 3) 25),
  (25, op_ireturn rm_L_setCell),
  (26, op_astore 6 28),
  (28, op_push (.int 4) 29),
  (29, op_ireturn rm_L_setCell),
  (30, op_astore 6 32),
  (32, op_push (.int 5) 33),
  (33, op_ireturn rm_L_setCell),
  (34, op_push (.int 0) 35),
  (35, op_ireturn rm_L_setCell)]
def T_L_setCell : ac_T := ac_vc k_L_setCell 7
set_option maxRecDepth 100000 in
set_option maxHeartbeats 4000000 in
theorem s_L_setCell : ∀ x ∈ k_L_setCell, ac_So M_L_setCell (fun _ _ _ => False) x.1 x.2 :=
  ac_cons (so_aload_n dL_setCell_0 rfl rfl) <|
  ac_cons (so_iload_n dL_setCell_1 rfl rfl) <|
  ac_cons (so_iload_n dL_setCell_2 rfl rfl) <|
  ac_cons (so_iload_n dL_setCell_3 rfl rfl) <|
  ac_cons (so_iload dL_setCell_4 rfl) <|
  ac_cons (so_iload dL_setCell_6 rfl) <|
  ac_cons (so_callV (N := M_X5_setCell) (ci := 8) C_X5_setCell rfl ⟨wd_549, wd_24, dy_X5_setCell, ⟨by decide, by decide⟩, tb_L_setCell⟩ rfl dL_setCell_8 wd_546 wd_547 wd_548 rfl) <|
  ac_cons (so_goto dL_setCell_11 (by decide)) <|
  ac_cons (so_astore dL_setCell_14 rfl) <|
  ac_cons (so_iconst dL_setCell_16 (by decide +kernel) rfl) <|
  ac_cons (so_ireturn rfl dL_setCell_17) <|
  ac_cons (so_astore dL_setCell_18 rfl) <|
  ac_cons (so_iconst dL_setCell_20 (by decide +kernel) rfl) <|
  ac_cons (so_ireturn rfl dL_setCell_21) <|
  ac_cons (so_astore dL_setCell_22 rfl) <|
  ac_cons (so_iconst dL_setCell_24 (by decide +kernel) rfl) <|
  ac_cons (so_ireturn rfl dL_setCell_25) <|
  ac_cons (so_astore dL_setCell_26 rfl) <|
  ac_cons (so_iconst dL_setCell_28 (by decide +kernel) rfl) <|
  ac_cons (so_ireturn rfl dL_setCell_29) <|
  ac_cons (so_astore dL_setCell_30 rfl) <|
  ac_cons (so_iconst dL_setCell_32 (by decide +kernel) rfl) <|
  ac_cons (so_ireturn rfl dL_setCell_33) <|
  ac_cons (so_iconst dL_setCell_34 (by decide +kernel) rfl) <|
  ac_cons (so_ireturn rfl dL_setCell_35) <| ac_nil
theorem C_L_setCell : ac_Ct yL_setCell M_L_setCell T_L_setCell := ac_methH (by decide +kernel) rfl rfl rfl s_L_setCell
-- L_refer
abbrev rm_L_refer : Room := { frames := 11, cells := 8, slots := 256, locals := 10310 }
abbrev M_L_refer : ac_D := (RL, "refer", cL_refer, 5, some FieldType.int, [(0, 7, 10, 13), (0, 7, 14, 27), (0, 7, 18, 29), (0, 7, 22, 41)], rm_L_refer)
theorem tb_L_refer : ac_tb RL [(0, 7, 10, 13), (0, 7, 14, 27), (0, 7, 18, 29), (0, 7, 22, 41)] := by unfold ac_tb; decide +kernel
theorem dy_L_refer : yL_refer.cls ≠ "java/lang/invoke/MethodHandle" ∧ yL_refer.cls ≠ "java/lang/invoke/VarHandle" ∧ (parseMethodDescriptor yL_refer.desc).map (fun d => d.parameters.length) = some 4 := by decide +kernel
def k_L_refer : List (Nat × ac_op) := [(0, op_aload 0 1),
  (1, op_iload 1 2),
  (2, op_iload 2 3),
  (3, op_iload 3 4),
  (4, op_callV rm_L_refer [(0, 7, 10, 13), (0, 7, 14, 27), (0, 7, 18, 29), (0, 7, 22, 41)] 8 T_X5_refer rm_X5_refer 3 4 7),
  (7, op_goto 26),
  (10, op_astore 4 12),
  (12, op_push (.int 1) 13),
  (13, op_ireturn rm_L_refer),
  (14, op_astore 4 16),
  (16, op_push (.int 2) 17),
  (17, op_ireturn rm_L_refer),
  (18, op_astore 4 20),
  (20, op_push (.int 3) 21),
  (21, op_ireturn rm_L_refer),
  (22, op_astore 4 24),
  (24, op_push (.int 4) 25),
  (25, op_ireturn rm_L_refer),
  (26, op_push (.int 0) 27),
  (27, op_ireturn rm_L_refer)]
def T_L_refer : ac_T := ac_vc k_L_refer 5
set_option maxRecDepth 100000 in
set_option maxHeartbeats 4000000 in
theorem s_L_refer : ∀ x ∈ k_L_refer, ac_So M_L_refer (fun _ _ _ => False) x.1 x.2 :=
  ac_cons (so_aload_n dL_refer_0 rfl rfl) <|
  ac_cons (so_iload_n dL_refer_1 rfl rfl) <|
  ac_cons (so_iload_n dL_refer_2 rfl rfl) <|
  ac_cons (so_iload_n dL_refer_3 rfl rfl) <|
  ac_cons (so_callV (N := M_X5_refer) (ci := 8) C_X5_refer rfl ⟨wd_564, wd_24, dy_X5_refer, ⟨by decide, by decide⟩, tb_L_refer⟩ rfl dL_refer_4 wd_561 wd_562 wd_563 rfl) <|
  ac_cons (so_goto dL_refer_7 (by decide)) <|
  ac_cons (so_astore dL_refer_10 rfl) <|
  ac_cons (so_iconst dL_refer_12 (by decide +kernel) rfl) <|
  ac_cons (so_ireturn rfl dL_refer_13) <|
  ac_cons (so_astore dL_refer_14 rfl) <|
  ac_cons (so_iconst dL_refer_16 (by decide +kernel) rfl) <|
  ac_cons (so_ireturn rfl dL_refer_17) <|
  ac_cons (so_astore dL_refer_18 rfl) <|
  ac_cons (so_iconst dL_refer_20 (by decide +kernel) rfl) <|
  ac_cons (so_ireturn rfl dL_refer_21) <|
  ac_cons (so_astore dL_refer_22 rfl) <|
  ac_cons (so_iconst dL_refer_24 (by decide +kernel) rfl) <|
  ac_cons (so_ireturn rfl dL_refer_25) <|
  ac_cons (so_iconst dL_refer_26 (by decide +kernel) rfl) <|
  ac_cons (so_ireturn rfl dL_refer_27) <| ac_nil
theorem C_L_refer : ac_Ct yL_refer M_L_refer T_L_refer := ac_methH (by decide +kernel) rfl rfl rfl s_L_refer
-- L_fetch
abbrev rm_L_fetch : Room := { frames := 11, cells := 8, slots := 256, locals := 10311 }
abbrev M_L_fetch : ac_D := (RL, "fetch", cL_fetch, 6, some FieldType.int, [(0, 12, 15, 13), (0, 12, 19, 27), (0, 12, 23, 29), (0, 12, 27, 41)], rm_L_fetch)
theorem tb_L_fetch : ac_tb RL [(0, 12, 15, 13), (0, 12, 19, 27), (0, 12, 23, 29), (0, 12, 27, 41)] := by unfold ac_tb; decide +kernel
theorem dy_L_fetch : yL_fetch.cls ≠ "java/lang/invoke/MethodHandle" ∧ yL_fetch.cls ≠ "java/lang/invoke/VarHandle" ∧ (parseMethodDescriptor yL_fetch.desc).map (fun d => d.parameters.length) = some 5 := by decide +kernel
def k_L_fetch : List (Nat × ac_op) := [(0, op_aload 4 2),
  (2, op_push (.int 0) 3),
  (3, op_aload 0 4),
  (4, op_iload 1 5),
  (5, op_iload 2 6),
  (6, op_iload 3 7),
  (7, op_callV rm_L_fetch [(0, 12, 15, 13), (0, 12, 19, 27), (0, 12, 23, 29), (0, 12, 27, 41)] 8 T_X5_fetch rm_X5_fetch 3 7 10),
  (10, op_i (fun x => .long x.toInt64) 11),
  (11, op_last 12),
  (12, op_goto 31),
  (15, op_astore 5 17),
  (17, op_push (.int 1) 18),
  (18, op_ireturn rm_L_fetch),
  (19, op_astore 5 21),
  (21, op_push (.int 2) 22),
  (22, op_ireturn rm_L_fetch),
  (23, op_astore 5 25),
  (25, op_push (.int 3) 26),
  (26, op_ireturn rm_L_fetch),
  (27, op_astore 5 29),
  (29, op_push (.int 4) 30),
  (30, op_ireturn rm_L_fetch),
  (31, op_push (.int 0) 32),
  (32, op_ireturn rm_L_fetch)]
def T_L_fetch : ac_T := ac_vc k_L_fetch 6
set_option maxRecDepth 100000 in
set_option maxHeartbeats 4000000 in
theorem s_L_fetch : ∀ x ∈ k_L_fetch, ac_So M_L_fetch (fun _ _ _ => False) x.1 x.2 :=
  ac_cons (so_aload dL_fetch_0 rfl) <|
  ac_cons (so_iconst dL_fetch_2 (by decide +kernel) rfl) <|
  ac_cons (so_aload_n dL_fetch_3 rfl rfl) <|
  ac_cons (so_iload_n dL_fetch_4 rfl rfl) <|
  ac_cons (so_iload_n dL_fetch_5 rfl rfl) <|
  ac_cons (so_iload_n dL_fetch_6 rfl rfl) <|
  ac_cons (so_callV (N := M_X5_fetch) (ci := 8) C_X5_fetch rfl ⟨wd_571, wd_24, dy_X5_fetch, ⟨by decide, by decide⟩, tb_L_fetch⟩ rfl dL_fetch_7 wd_568 wd_569 wd_570 rfl) <|
  ac_cons (so_i2l dL_fetch_10 rfl) <|
  ac_cons (so_last dL_fetch_11 rfl) <|
  ac_cons (so_goto dL_fetch_12 (by decide)) <|
  ac_cons (so_astore dL_fetch_15 rfl) <|
  ac_cons (so_iconst dL_fetch_17 (by decide +kernel) rfl) <|
  ac_cons (so_ireturn rfl dL_fetch_18) <|
  ac_cons (so_astore dL_fetch_19 rfl) <|
  ac_cons (so_iconst dL_fetch_21 (by decide +kernel) rfl) <|
  ac_cons (so_ireturn rfl dL_fetch_22) <|
  ac_cons (so_astore dL_fetch_23 rfl) <|
  ac_cons (so_iconst dL_fetch_25 (by decide +kernel) rfl) <|
  ac_cons (so_ireturn rfl dL_fetch_26) <|
  ac_cons (so_astore dL_fetch_27 rfl) <|
  ac_cons (so_iconst dL_fetch_29 (by decide +kernel) rfl) <|
  ac_cons (so_ireturn rfl dL_fetch_30) <|
  ac_cons (so_iconst dL_fetch_31 (by decide +kernel) rfl) <|
  ac_cons (so_ireturn rfl dL_fetch_32) <| ac_nil
theorem C_L_fetch : ac_Ct yL_fetch M_L_fetch T_L_fetch := ac_methH (by decide +kernel) rfl rfl rfl s_L_fetch
-- L_link
abbrev rm_L_link : Room := { frames := 11, cells := 5, slots := 32, locals := 10307 }
abbrev M_L_link : ac_D := (RL, "link", cL_link, 4, some FieldType.int, [(0, 6, 9, 13), (0, 6, 12, 29), (0, 6, 15, 27)], rm_L_link)
theorem tb_L_link : ac_tb RL [(0, 6, 9, 13), (0, 6, 12, 29), (0, 6, 15, 27)] := by unfold ac_tb; decide +kernel
theorem dy_L_link : yL_link.cls ≠ "java/lang/invoke/MethodHandle" ∧ yL_link.cls ≠ "java/lang/invoke/VarHandle" ∧ (parseMethodDescriptor yL_link.desc).map (fun d => d.parameters.length) = some 3 := by decide +kernel
def k_L_link : List (Nat × ac_op) := [(0, op_aload 0 1),
  (1, op_iload 1 2),
  (2, op_iload 2 3),
  (3, op_callV rm_L_link [(0, 6, 9, 13), (0, 6, 12, 29), (0, 6, 15, 27)] 8 T_X5_link rm_X5_link 2 3 6),
  (6, op_goto 18),
  (9, op_astore 3 10),
  (10, op_push (.int 1) 11),
  (11, op_ireturn rm_L_link),
  (12, op_astore 3 13),
  (13, op_push (.int 2) 14),
  (14, op_ireturn rm_L_link),
  (15, op_astore 3 16),
  (16, op_push (.int 3) 17),
  (17, op_ireturn rm_L_link),
  (18, op_push (.int 0) 19),
  (19, op_ireturn rm_L_link)]
def T_L_link : ac_T := ac_vc k_L_link 4
set_option maxRecDepth 100000 in
set_option maxHeartbeats 4000000 in
theorem s_L_link : ∀ x ∈ k_L_link, ac_So M_L_link (fun _ _ _ => False) x.1 x.2 :=
  ac_cons (so_aload_n dL_link_0 rfl rfl) <|
  ac_cons (so_iload_n dL_link_1 rfl rfl) <|
  ac_cons (so_iload_n dL_link_2 rfl rfl) <|
  ac_cons (so_callV (N := M_X5_link) (ci := 8) C_X5_link rfl ⟨wd_578, wd_24, dy_X5_link, ⟨by decide, by decide⟩, tb_L_link⟩ rfl dL_link_3 wd_575 wd_576 wd_577 rfl) <|
  ac_cons (so_goto dL_link_6 (by decide)) <|
  ac_cons (so_astore_n dL_link_9 rfl rfl) <|
  ac_cons (so_iconst dL_link_10 (by decide +kernel) rfl) <|
  ac_cons (so_ireturn rfl dL_link_11) <|
  ac_cons (so_astore_n dL_link_12 rfl rfl) <|
  ac_cons (so_iconst dL_link_13 (by decide +kernel) rfl) <|
  ac_cons (so_ireturn rfl dL_link_14) <|
  ac_cons (so_astore_n dL_link_15 rfl rfl) <|
  ac_cons (so_iconst dL_link_16 (by decide +kernel) rfl) <|
  ac_cons (so_ireturn rfl dL_link_17) <|
  ac_cons (so_iconst dL_link_18 (by decide +kernel) rfl) <|
  ac_cons (so_ireturn rfl dL_link_19) <| ac_nil
theorem C_L_link : ac_Ct yL_link M_L_link T_L_link := ac_methH (by decide +kernel) rfl rfl rfl s_L_link
-- L_follow
abbrev rm_L_follow : Room := { frames := 11, cells := 4, slots := 26, locals := 10307 }
abbrev M_L_follow : ac_D := (RL, "follow", cL_follow, 5, some FieldType.int, [(0, 17, 20, 13), (0, 17, 24, 29), (0, 17, 28, 27)], rm_L_follow)
theorem tb_L_follow : ac_tb RL [(0, 17, 20, 13), (0, 17, 24, 29), (0, 17, 28, 27)] := by unfold ac_tb; decide +kernel
theorem dy_L_follow : yL_follow.cls ≠ "java/lang/invoke/MethodHandle" ∧ yL_follow.cls ≠ "java/lang/invoke/VarHandle" ∧ (parseMethodDescriptor yL_follow.desc).map (fun d => d.parameters.length) = some 4 := by decide +kernel
def k_L_follow : List (Nat × ac_op) := [(0, op_aload 3 1),
  (1, op_push (.int 0) 2),
  (2, op_aload 0 3),
  (3, op_iload 1 4),
  (4, op_iload 2 5),
  (5, op_callV rm_L_follow [(0, 17, 20, 13), (0, 17, 24, 29), (0, 17, 28, 27)] 8 T_X5_follow rm_X5_follow 2 5 8),
  (8, op_if (fun x => x = 0) 15 11),
  (11, op_push (.long 1) 12),
  (12, op_goto 16),
  (15, op_push (.long 0) 16),
  (16, op_last 17),
  (17, op_goto 32),
  (20, op_astore 4 22),
  (22, op_push (.int 1) 23),
  (23, op_ireturn rm_L_follow),
  (24, op_astore 4 26),
  (26, op_push (.int 2) 27),
  (27, op_ireturn rm_L_follow),
  (28, op_astore 4 30),
  (30, op_push (.int 3) 31),
  (31, op_ireturn rm_L_follow),
  (32, op_push (.int 0) 33),
  (33, op_ireturn rm_L_follow)]
def T_L_follow : ac_T := ac_vc k_L_follow 5
set_option maxRecDepth 100000 in
set_option maxHeartbeats 4000000 in
theorem s_L_follow : ∀ x ∈ k_L_follow, ac_So M_L_follow (fun _ _ _ => False) x.1 x.2 :=
  ac_cons (so_aload_n dL_follow_0 rfl rfl) <|
  ac_cons (so_iconst dL_follow_1 (by decide +kernel) rfl) <|
  ac_cons (so_aload_n dL_follow_2 rfl rfl) <|
  ac_cons (so_iload_n dL_follow_3 rfl rfl) <|
  ac_cons (so_iload_n dL_follow_4 rfl rfl) <|
  ac_cons (so_callV (N := M_X5_follow) (ci := 8) C_X5_follow rfl ⟨wd_593, wd_24, dy_X5_follow, ⟨by decide, by decide⟩, tb_L_follow⟩ rfl dL_follow_5 wd_590 wd_591 wd_592 rfl) <|
  ac_cons (so_if_eq dL_follow_8 (by decide) rfl) <|
  ac_cons (so_lconst dL_follow_11 (by decide +kernel) rfl) <|
  ac_cons (so_goto dL_follow_12 (by decide)) <|
  ac_cons (so_lconst dL_follow_15 (by decide +kernel) rfl) <|
  ac_cons (so_last dL_follow_16 rfl) <|
  ac_cons (so_goto dL_follow_17 (by decide)) <|
  ac_cons (so_astore dL_follow_20 rfl) <|
  ac_cons (so_iconst dL_follow_22 (by decide +kernel) rfl) <|
  ac_cons (so_ireturn rfl dL_follow_23) <|
  ac_cons (so_astore dL_follow_24 rfl) <|
  ac_cons (so_iconst dL_follow_26 (by decide +kernel) rfl) <|
  ac_cons (so_ireturn rfl dL_follow_27) <|
  ac_cons (so_astore dL_follow_28 rfl) <|
  ac_cons (so_iconst dL_follow_30 (by decide +kernel) rfl) <|
  ac_cons (so_ireturn rfl dL_follow_31) <|
  ac_cons (so_iconst dL_follow_32 (by decide +kernel) rfl) <|
  ac_cons (so_ireturn rfl dL_follow_33) <| ac_nil
theorem C_L_follow : ac_Ct yL_follow M_L_follow T_L_follow := ac_methH (by decide +kernel) rfl rfl rfl s_L_follow
-- L_exchange
abbrev rm_L_exchange : Room := { frames := 11, cells := 3, slots := 20, locals := 10310 }
abbrev M_L_exchange : ac_D := (RL, "exchange", cL_exchange, 6, some FieldType.int, [(0, 10, 13, 13), (0, 10, 17, 29), (0, 10, 21, 27)], rm_L_exchange)
theorem tb_L_exchange : ac_tb RL [(0, 10, 13, 13), (0, 10, 17, 29), (0, 10, 21, 27)] := by unfold ac_tb; decide +kernel
theorem dy_L_exchange : yL_exchange.cls ≠ "java/lang/invoke/MethodHandle" ∧ yL_exchange.cls ≠ "java/lang/invoke/VarHandle" ∧ (parseMethodDescriptor yL_exchange.desc).map (fun d => d.parameters.length) = some 4 := by decide +kernel
def k_L_exchange : List (Nat × ac_op) := [(0, op_aload 4 2),
  (2, op_push (.int 0) 3),
  (3, op_aload 0 4),
  (4, op_iload 1 5),
  (5, op_lload 2 6),
  (6, op_callV rm_L_exchange [(0, 10, 13, 13), (0, 10, 17, 29), (0, 10, 21, 27)] 8 T_X5_exchange rm_X5_exchange 2 6 9),
  (9, op_last 10),
  (10, op_goto 25),
  (13, op_astore 5 15),
  (15, op_push (.int 1) 16),
  (16, op_ireturn rm_L_exchange),
  (17, op_astore 5 19),
  (19, op_push (.int 2) 20),
  (20, op_ireturn rm_L_exchange),
  (21, op_astore 5 23),
  (23, op_push (.int 3) 24),
  (24, op_ireturn rm_L_exchange),
  (25, op_push (.int 0) 26),
  (26, op_ireturn rm_L_exchange)]
def T_L_exchange : ac_T := ac_vc k_L_exchange 6
set_option maxRecDepth 100000 in
set_option maxHeartbeats 4000000 in
theorem s_L_exchange : ∀ x ∈ k_L_exchange, ac_So M_L_exchange (fun _ _ _ => False) x.1 x.2 :=
  ac_cons (so_aload dL_exchange_0 rfl) <|
  ac_cons (so_iconst dL_exchange_2 (by decide +kernel) rfl) <|
  ac_cons (so_aload_n dL_exchange_3 rfl rfl) <|
  ac_cons (so_iload_n dL_exchange_4 rfl rfl) <|
  ac_cons (so_lload_n dL_exchange_5 rfl rfl) <|
  ac_cons (so_callV (N := M_X5_exchange) (ci := 8) C_X5_exchange rfl ⟨wd_600, wd_24, dy_X5_exchange, ⟨by decide, by decide⟩, tb_L_exchange⟩ rfl dL_exchange_6 wd_597 wd_598 wd_599 rfl) <|
  ac_cons (so_last dL_exchange_9 rfl) <|
  ac_cons (so_goto dL_exchange_10 (by decide)) <|
  ac_cons (so_astore dL_exchange_13 rfl) <|
  ac_cons (so_iconst dL_exchange_15 (by decide +kernel) rfl) <|
  ac_cons (so_ireturn rfl dL_exchange_16) <|
  ac_cons (so_astore dL_exchange_17 rfl) <|
  ac_cons (so_iconst dL_exchange_19 (by decide +kernel) rfl) <|
  ac_cons (so_ireturn rfl dL_exchange_20) <|
  ac_cons (so_astore dL_exchange_21 rfl) <|
  ac_cons (so_iconst dL_exchange_23 (by decide +kernel) rfl) <|
  ac_cons (so_ireturn rfl dL_exchange_24) <|
  ac_cons (so_iconst dL_exchange_25 (by decide +kernel) rfl) <|
  ac_cons (so_ireturn rfl dL_exchange_26) <| ac_nil
theorem C_L_exchange : ac_Ct yL_exchange M_L_exchange T_L_exchange := ac_methH (by decide +kernel) rfl rfl rfl s_L_exchange
-- L_total
abbrev rm_L_total : Room := { frames := 11, cells := 3, slots := 20, locals := 10309 }
abbrev M_L_total : ac_D := (RL, "total", cL_total, 4, some FieldType.int, [(0, 8, 11, 13), (0, 8, 14, 29), (0, 8, 17, 27)], rm_L_total)
theorem tb_L_total : ac_tb RL [(0, 8, 11, 13), (0, 8, 14, 29), (0, 8, 17, 27)] := by unfold ac_tb; decide +kernel
theorem dy_L_total : yL_total.cls ≠ "java/lang/invoke/MethodHandle" ∧ yL_total.cls ≠ "java/lang/invoke/VarHandle" ∧ (parseMethodDescriptor yL_total.desc).map (fun d => d.parameters.length) = some 3 := by decide +kernel
def k_L_total : List (Nat × ac_op) := [(0, op_aload 2 1),
  (1, op_push (.int 0) 2),
  (2, op_aload 0 3),
  (3, op_iload 1 4),
  (4, op_callV rm_L_total [(0, 8, 11, 13), (0, 8, 14, 29), (0, 8, 17, 27)] 8 T_X5_total rm_X5_total 1 4 7),
  (7, op_last 8),
  (8, op_goto 20),
  (11, op_astore 3 12),
  (12, op_push (.int 1) 13),
  (13, op_ireturn rm_L_total),
  (14, op_astore 3 15),
  (15, op_push (.int 2) 16),
  (16, op_ireturn rm_L_total),
  (17, op_astore 3 18),
  (18, op_push (.int 3) 19),
  (19, op_ireturn rm_L_total),
  (20, op_push (.int 0) 21),
  (21, op_ireturn rm_L_total)]
def T_L_total : ac_T := ac_vc k_L_total 4
set_option maxRecDepth 100000 in
set_option maxHeartbeats 4000000 in
theorem s_L_total : ∀ x ∈ k_L_total, ac_So M_L_total (fun _ _ _ => False) x.1 x.2 :=
  ac_cons (so_aload_n dL_total_0 rfl rfl) <|
  ac_cons (so_iconst dL_total_1 (by decide +kernel) rfl) <|
  ac_cons (so_aload_n dL_total_2 rfl rfl) <|
  ac_cons (so_iload_n dL_total_3 rfl rfl) <|
  ac_cons (so_callV (N := M_X5_total) (ci := 8) C_X5_total rfl ⟨wd_607, wd_24, dy_X5_total, ⟨by decide, by decide⟩, tb_L_total⟩ rfl dL_total_4 wd_604 wd_605 wd_606 rfl) <|
  ac_cons (so_last dL_total_7 rfl) <|
  ac_cons (so_goto dL_total_8 (by decide)) <|
  ac_cons (so_astore_n dL_total_11 rfl rfl) <|
  ac_cons (so_iconst dL_total_12 (by decide +kernel) rfl) <|
  ac_cons (so_ireturn rfl dL_total_13) <|
  ac_cons (so_astore_n dL_total_14 rfl rfl) <|
  ac_cons (so_iconst dL_total_15 (by decide +kernel) rfl) <|
  ac_cons (so_ireturn rfl dL_total_16) <|
  ac_cons (so_astore_n dL_total_17 rfl rfl) <|
  ac_cons (so_iconst dL_total_18 (by decide +kernel) rfl) <|
  ac_cons (so_ireturn rfl dL_total_19) <|
  ac_cons (so_iconst dL_total_20 (by decide +kernel) rfl) <|
  ac_cons (so_ireturn rfl dL_total_21) <| ac_nil
theorem C_L_total : ac_Ct yL_total M_L_total T_L_total := ac_methH (by decide +kernel) rfl rfl rfl s_L_total
-- L_combine
abbrev rm_L_combine : Room := { frames := 12, cells := 20, slots := 742, locals := 10344 }
abbrev M_L_combine : ac_D := (RL, "combine", cL_combine, 8, some FieldType.int, [(0, 15, 18, 13), (0, 15, 22, 27), (0, 15, 26, 29), (0, 15, 30, 41), (0, 15, 34, 64)], rm_L_combine)
theorem tb_L_combine : ac_tb RL [(0, 15, 18, 13), (0, 15, 22, 27), (0, 15, 26, 29), (0, 15, 30, 41), (0, 15, 34, 64)] := by unfold ac_tb; decide +kernel
theorem dy_L_combine : yL_combine.cls ≠ "java/lang/invoke/MethodHandle" ∧ yL_combine.cls ≠ "java/lang/invoke/VarHandle" ∧ (parseMethodDescriptor yL_combine.desc).map (fun d => d.parameters.length) = some 7 := by decide +kernel
def k_L_combine : List (Nat × ac_op) := [(0, op_aload 6 2),
  (2, op_push (.int 0) 3),
  (3, op_aload 0 4),
  (4, op_iload 1 5),
  (5, op_iload 2 6),
  (6, op_iload 3 7),
  (7, op_iload 4 9),
  (9, op_iload 5 11),
  (11, op_callV rm_L_combine [(0, 15, 18, 13), (0, 15, 22, 27), (0, 15, 26, 29), (0, 15, 30, 41), (0, 15, 34, 64)] 8 T_X5_combine rm_X5_combine 5 11 14),
  (14, op_last 15),
  (15, op_goto 38),
  (18, op_astore 7 20),
  (20, op_push (.int 1) 21),
  (21, op_ireturn rm_L_combine),
  (22, op_astore 7 24),
  (24, op_push (.int 2) 25),
  (25, op_ireturn rm_L_combine),
  (26, op_astore 7 28),
  (28, op_push (.int 3) 29),
  (29, op_ireturn rm_L_combine),
  (30, op_astore 7 32),
  (32, op_push (.int 4) 33),
  (33, op_ireturn rm_L_combine),
  (34, op_astore 7 36),
  (36, op_push (.int 5) 37),
  (37, op_ireturn rm_L_combine),
  (38, op_push (.int 0) 39),
  (39, op_ireturn rm_L_combine)]
def T_L_combine : ac_T := ac_vc k_L_combine 8
set_option maxRecDepth 100000 in
set_option maxHeartbeats 4000000 in
theorem s_L_combine : ∀ x ∈ k_L_combine, ac_So M_L_combine (fun _ _ _ => False) x.1 x.2 :=
  ac_cons (so_aload dL_combine_0 rfl) <|
  ac_cons (so_iconst dL_combine_2 (by decide +kernel) rfl) <|
  ac_cons (so_aload_n dL_combine_3 rfl rfl) <|
  ac_cons (so_iload_n dL_combine_4 rfl rfl) <|
  ac_cons (so_iload_n dL_combine_5 rfl rfl) <|
  ac_cons (so_iload_n dL_combine_6 rfl rfl) <|
  ac_cons (so_iload dL_combine_7 rfl) <|
  ac_cons (so_iload dL_combine_9 rfl) <|
  ac_cons (so_callV (N := M_X5_combine) (ci := 8) C_X5_combine rfl ⟨wd_614, wd_24, dy_X5_combine, ⟨by decide, by decide⟩, tb_L_combine⟩ rfl dL_combine_11 wd_611 wd_612 wd_613 rfl) <|
  ac_cons (so_last dL_combine_14 rfl) <|
  ac_cons (so_goto dL_combine_15 (by decide)) <|
  ac_cons (so_astore dL_combine_18 rfl) <|
  ac_cons (so_iconst dL_combine_20 (by decide +kernel) rfl) <|
  ac_cons (so_ireturn rfl dL_combine_21) <|
  ac_cons (so_astore dL_combine_22 rfl) <|
  ac_cons (so_iconst dL_combine_24 (by decide +kernel) rfl) <|
  ac_cons (so_ireturn rfl dL_combine_25) <|
  ac_cons (so_astore dL_combine_26 rfl) <|
  ac_cons (so_iconst dL_combine_28 (by decide +kernel) rfl) <|
  ac_cons (so_ireturn rfl dL_combine_29) <|
  ac_cons (so_astore dL_combine_30 rfl) <|
  ac_cons (so_iconst dL_combine_32 (by decide +kernel) rfl) <|
  ac_cons (so_ireturn rfl dL_combine_33) <|
  ac_cons (so_astore dL_combine_34 rfl) <|
  ac_cons (so_iconst dL_combine_36 (by decide +kernel) rfl) <|
  ac_cons (so_ireturn rfl dL_combine_37) <|
  ac_cons (so_iconst dL_combine_38 (by decide +kernel) rfl) <|
  ac_cons (so_ireturn rfl dL_combine_39) <| ac_nil
theorem C_L_combine : ac_Ct yL_combine M_L_combine T_L_combine := ac_methH (by decide +kernel) rfl rfl rfl s_L_combine
-- L_move
abbrev rm_L_move : Room := { frames := 12, cells := 198, slots := 11080, locals := 10340 }
abbrev M_L_move : ac_D := (RL, "move", cL_move, 8, some FieldType.int, [(0, 16, 19, 13), (0, 16, 23, 27), (0, 16, 27, 29), (0, 16, 31, 41)], rm_L_move)
theorem tb_L_move : ac_tb RL [(0, 16, 19, 13), (0, 16, 23, 27), (0, 16, 27, 29), (0, 16, 31, 41)] := by unfold ac_tb; decide +kernel
theorem dy_L_move : yL_move.cls ≠ "java/lang/invoke/MethodHandle" ∧ yL_move.cls ≠ "java/lang/invoke/VarHandle" ∧ (parseMethodDescriptor yL_move.desc).map (fun d => d.parameters.length) = some 7 := by decide +kernel
def k_L_move : List (Nat × ac_op) := [(0, op_aload 6 2),
  (2, op_push (.int 0) 3),
  (3, op_aload 0 4),
  (4, op_iload 1 5),
  (5, op_iload 2 6),
  (6, op_iload 3 7),
  (7, op_iload 4 9),
  (9, op_iload 5 11),
  (11, op_callV rm_L_move [(0, 16, 19, 13), (0, 16, 23, 27), (0, 16, 27, 29), (0, 16, 31, 41)] 8 T_X5_move rm_X5_move 5 11 14),
  (14, op_i (fun x => .long x.toInt64) 15),
  (15, op_last 16),
  (16, op_goto 35),
  (19, op_astore 7 21),
  (21, op_push (.int 1) 22),
  (22, op_ireturn rm_L_move),
  (23, op_astore 7 25),
  (25, op_push (.int 2) 26),
  (26, op_ireturn rm_L_move),
  (27, op_astore 7 29),
  (29, op_push (.int 3) 30),
  (30, op_ireturn rm_L_move),
  (31, op_astore 7 33),
  (33, op_push (.int 4) 34),
  (34, op_ireturn rm_L_move),
  (35, op_push (.int 0) 36),
  (36, op_ireturn rm_L_move)]
def T_L_move : ac_T := ac_vc k_L_move 8
set_option maxRecDepth 100000 in
set_option maxHeartbeats 4000000 in
theorem s_L_move : ∀ x ∈ k_L_move, ac_So M_L_move (fun _ _ _ => False) x.1 x.2 :=
  ac_cons (so_aload dL_move_0 rfl) <|
  ac_cons (so_iconst dL_move_2 (by decide +kernel) rfl) <|
  ac_cons (so_aload_n dL_move_3 rfl rfl) <|
  ac_cons (so_iload_n dL_move_4 rfl rfl) <|
  ac_cons (so_iload_n dL_move_5 rfl rfl) <|
  ac_cons (so_iload_n dL_move_6 rfl rfl) <|
  ac_cons (so_iload dL_move_7 rfl) <|
  ac_cons (so_iload dL_move_9 rfl) <|
  ac_cons (so_callV (N := M_X5_move) (ci := 8) C_X5_move rfl ⟨wd_624, wd_24, dy_X5_move, ⟨by decide, by decide⟩, tb_L_move⟩ rfl dL_move_11 wd_621 wd_622 wd_623 rfl) <|
  ac_cons (so_i2l dL_move_14 rfl) <|
  ac_cons (so_last dL_move_15 rfl) <|
  ac_cons (so_goto dL_move_16 (by decide)) <|
  ac_cons (so_astore dL_move_19 rfl) <|
  ac_cons (so_iconst dL_move_21 (by decide +kernel) rfl) <|
  ac_cons (so_ireturn rfl dL_move_22) <|
  ac_cons (so_astore dL_move_23 rfl) <|
  ac_cons (so_iconst dL_move_25 (by decide +kernel) rfl) <|
  ac_cons (so_ireturn rfl dL_move_26) <|
  ac_cons (so_astore dL_move_27 rfl) <|
  ac_cons (so_iconst dL_move_29 (by decide +kernel) rfl) <|
  ac_cons (so_ireturn rfl dL_move_30) <|
  ac_cons (so_astore dL_move_31 rfl) <|
  ac_cons (so_iconst dL_move_33 (by decide +kernel) rfl) <|
  ac_cons (so_ireturn rfl dL_move_34) <|
  ac_cons (so_iconst dL_move_35 (by decide +kernel) rfl) <|
  ac_cons (so_ireturn rfl dL_move_36) <| ac_nil
theorem C_L_move : ac_Ct yL_move M_L_move T_L_move := ac_methH (by decide +kernel) rfl rfl rfl s_L_move
