/-! ===== the methods: data, code, contract ===== -/
-- X6_init
abbrev rm_X6_init : Room := { frames := 1, cells := 8, slots := 18208, locals := 20 }
abbrev M_X6_init : ac_D := (RX6, "<init>", cX6_init, 2, none, [], rm_X6_init)
theorem tb_X6_init : ac_tb RX6 [] := fun q h => (by cases h)
theorem dy_X6_init : yX6_init.cls ≠ "java/lang/invoke/MethodHandle" ∧ yX6_init.cls ≠ "java/lang/invoke/VarHandle" ∧ (parseMethodDescriptor yX6_init.desc).map (fun d => d.parameters.length) = some 0 := by decide +kernel
def k_X6_init : List (Nat × ac_op) := [(0, op_aload 0 1),
  (1, op_objinit 4),
  (4, op_aload 0 5),
  (5, op_push (.int 8) 7),
  (7, op_newa rm_X6_init 0 9),
  (9, op_put 9 0 12),
  (12, op_aload 0 13),
  (13, op_push (.int 520) 16),
  (16, op_newa rm_X6_init 0 18),
  (18, op_put 9 1 21),
  (21, op_aload 0 22),
  (22, op_push (.int 520) 25),
  (25, op_newa rm_X6_init 0 27),
  (27, op_put 9 2 30),
  (30, op_aload 0 31),
  (31, op_push (.int 520) 34),
  (34, op_newa rm_X6_init 0 36),
  (36, op_put 9 3 39),
  (39, op_aload 0 40),
  (40, op_push (.int 520) 43),
  (43, op_newa rm_X6_init 0 45),
  (45, op_put 9 4 48),
  (48, op_aload 0 49),
  (49, op_push (.int 520) 52),
  (52, op_newa rm_X6_init 0 54),
  (54, op_put 9 5 57),
  (57, op_aload 0 58),
  (58, op_push (.int 12480) 61),
  (61, op_newa rm_X6_init 2 63),
  (63, op_put 9 6 66),
  (66, op_aload 0 67),
  (67, op_push (.int 3120) 70),
  (70, op_newa rm_X6_init 1 72),
  (72, op_put 9 7 75),
  (75, op_push (.int 0) 76),
  (76, op_istore 1 77),
  (77, op_iload 1 78),
  (78, op_push (.int 8) 80),
  (80, op_icmp (fun x y => y ≤ x) 96 83),
  (83, op_aload 0 84),
  (84, op_get 9 0 87),
  (87, op_iload 1 88),
  (88, op_push (.int (-1)) 89),
  (89, op_iast 90),
  (90, op_iinc 1 1 93),
  (93, op_goto 77),
  (96, op_return rm_X6_init)]
def T_X6_init : ac_T := ac_vc k_X6_init 2
set_option maxRecDepth 100000 in
set_option maxHeartbeats 4000000 in
theorem s_X6_init : ∀ x ∈ k_X6_init, ac_So M_X6_init (fun _ _ _ => False) x.1 x.2 :=
  ac_cons (so_aload_n dX6_init_0 rfl rfl) <|
  ac_cons (so_objinit dX6_init_1 wd_630 wd_52 wd_53 ⟨by decide, by decide⟩ rfl) <|
  ac_cons (so_aload_n dX6_init_4 rfl rfl) <|
  ac_cons (so_bipush dX6_init_5 (by decide +kernel) rfl) <|
  ac_cons (so_newI wd_210 dX6_init_7 rfl) <|
  ac_cons (so_putF (ci := 9) (f := 0) rfl in_X6 tyX6_ok nmX6 (by decide) rfl rfl rfl rfl dX6_init_9 wd_631 rfl) <|
  ac_cons (so_aload_n dX6_init_12 rfl rfl) <|
  ac_cons (so_sipush dX6_init_13 (by decide +kernel) rfl) <|
  ac_cons (so_newI wd_210 dX6_init_16 rfl) <|
  ac_cons (so_putF (ci := 9) (f := 1) rfl in_X6 tyX6_ok nmX6 (by decide) rfl rfl rfl rfl dX6_init_18 wd_632 rfl) <|
  ac_cons (so_aload_n dX6_init_21 rfl rfl) <|
  ac_cons (so_sipush dX6_init_22 (by decide +kernel) rfl) <|
  ac_cons (so_newI wd_210 dX6_init_25 rfl) <|
  ac_cons (so_putF (ci := 9) (f := 2) rfl in_X6 tyX6_ok nmX6 (by decide) rfl rfl rfl rfl dX6_init_27 wd_633 rfl) <|
  ac_cons (so_aload_n dX6_init_30 rfl rfl) <|
  ac_cons (so_sipush dX6_init_31 (by decide +kernel) rfl) <|
  ac_cons (so_newI wd_210 dX6_init_34 rfl) <|
  ac_cons (so_putF (ci := 9) (f := 3) rfl in_X6 tyX6_ok nmX6 (by decide) rfl rfl rfl rfl dX6_init_36 wd_634 rfl) <|
  ac_cons (so_aload_n dX6_init_39 rfl rfl) <|
  ac_cons (so_sipush dX6_init_40 (by decide +kernel) rfl) <|
  ac_cons (so_newI wd_210 dX6_init_43 rfl) <|
  ac_cons (so_putF (ci := 9) (f := 4) rfl in_X6 tyX6_ok nmX6 (by decide) rfl rfl rfl rfl dX6_init_45 wd_635 rfl) <|
  ac_cons (so_aload_n dX6_init_48 rfl rfl) <|
  ac_cons (so_sipush dX6_init_49 (by decide +kernel) rfl) <|
  ac_cons (so_newI wd_210 dX6_init_52 rfl) <|
  ac_cons (so_putF (ci := 9) (f := 5) rfl in_X6 tyX6_ok nmX6 (by decide) rfl rfl rfl rfl dX6_init_54 wd_636 rfl) <|
  ac_cons (so_aload_n dX6_init_57 rfl rfl) <|
  ac_cons (so_sipush dX6_init_58 (by decide +kernel) rfl) <|
  ac_cons (so_newJ wd_211 dX6_init_61 rfl) <|
  ac_cons (so_putF (ci := 9) (f := 6) rfl in_X6 tyX6_ok nmX6 (by decide) rfl rfl rfl rfl dX6_init_63 wd_637 rfl) <|
  ac_cons (so_aload_n dX6_init_66 rfl rfl) <|
  ac_cons (so_sipush dX6_init_67 (by decide +kernel) rfl) <|
  ac_cons (so_newZ wd_668 dX6_init_70 rfl) <|
  ac_cons (so_putF (ci := 9) (f := 7) rfl in_X6 tyX6_ok nmX6 (by decide) rfl rfl rfl rfl dX6_init_72 wd_638 rfl) <|
  ac_cons (so_iconst dX6_init_75 (by decide +kernel) rfl) <|
  ac_cons (so_istore_n dX6_init_76 rfl rfl) <|
  ac_cons (so_iload_n dX6_init_77 rfl rfl) <|
  ac_cons (so_bipush dX6_init_78 (by decide +kernel) rfl) <|
  ac_cons (so_icmp_ge dX6_init_80 (by decide) rfl) <|
  ac_cons (so_aload_n dX6_init_83 rfl rfl) <|
  ac_cons (so_get (ci := 9) (f := 0) rfl in_X6 (by decide) dX6_init_84 wd_631 rfl) <|
  ac_cons (so_iload_n dX6_init_87 rfl rfl) <|
  ac_cons (so_iconst dX6_init_88 (by decide +kernel) rfl) <|
  ac_cons (so_iast dX6_init_89 rfl) <|
  ac_cons (so_iinc dX6_init_90 (by decide +kernel) rfl) <|
  ac_cons (so_goto dX6_init_93 (by decide)) <|
  ac_cons (so_return rfl dX6_init_96) <| ac_nil
theorem C_X6_init : ac_Ct yX6_init M_X6_init T_X6_init := ac_meth (by decide +kernel) rfl rfl rfl rfl s_X6_init
-- X6_thrown
abbrev rm_X6_thrown : Room := { frames := 0, cells := 0, slots := 0, locals := 0 }
abbrev M_X6_thrown : ac_D := (RX6, "thrown", cX6_thrown, 1, some FieldType.int, [], rm_X6_thrown)
theorem tb_X6_thrown : ac_tb RX6 [] := fun q h => (by cases h)
theorem dy_X6_thrown : yX6_thrown.cls ≠ "java/lang/invoke/MethodHandle" ∧ yX6_thrown.cls ≠ "java/lang/invoke/VarHandle" ∧ (parseMethodDescriptor yX6_thrown.desc).map (fun d => d.parameters.length) = some 0 := by decide +kernel
def k_X6_thrown : List (Nat × ac_op) := [(0, op_aload 0 1),
  (1, op_get 9 11 4),
  (4, op_ireturn rm_X6_thrown)]
def T_X6_thrown : ac_T := ac_vc k_X6_thrown 1
set_option maxRecDepth 100000 in
set_option maxHeartbeats 4000000 in
theorem s_X6_thrown : ∀ x ∈ k_X6_thrown, ac_So M_X6_thrown (fun _ _ _ => False) x.1 x.2 :=
  ac_cons (so_aload_n dX6_thrown_0 rfl rfl) <|
  ac_cons (so_get (ci := 9) (f := 11) rfl in_X6 (by decide) dX6_thrown_1 wd_642 rfl) <|
  ac_cons (so_ireturn rfl dX6_thrown_4) <| ac_nil
theorem C_X6_thrown : ac_Ct yX6_thrown M_X6_thrown T_X6_thrown := ac_meth (by decide +kernel) rfl rfl rfl rfl s_X6_thrown
-- X6_in
abbrev rm_X6_in : Room := { frames := 0, cells := 0, slots := 0, locals := 0 }
abbrev M_X6_in : ac_D := (RX6, "in", cX6_in, 3, some FieldType.boolean, [], rm_X6_in)
theorem tb_X6_in : ac_tb RX6 [] := fun q h => (by cases h)
theorem dy_X6_in : yX6_in.cls ≠ "java/lang/invoke/MethodHandle" ∧ yX6_in.cls ≠ "java/lang/invoke/VarHandle" ∧ (parseMethodDescriptor yX6_in.desc).map (fun d => d.parameters.length) = some 3 := by decide +kernel
def k_X6_in : List (Nat × ac_op) := [(0, op_iload 0 1),
  (1, op_iload 1 2),
  (2, op_icmp (fun x y => x < y) 14 5),
  (5, op_iload 0 6),
  (6, op_iload 2 7),
  (7, op_icmp (fun x y => y < x) 14 10),
  (10, op_push (.int 1) 11),
  (11, op_goto 15),
  (14, op_push (.int 0) 15),
  (15, op_zreturn rm_X6_in)]
def T_X6_in : ac_T := ac_vc k_X6_in 3
set_option maxRecDepth 100000 in
set_option maxHeartbeats 4000000 in
theorem s_X6_in : ∀ x ∈ k_X6_in, ac_So M_X6_in (fun _ _ _ => False) x.1 x.2 :=
  ac_cons (so_iload_n dX6_in_0 rfl rfl) <|
  ac_cons (so_iload_n dX6_in_1 rfl rfl) <|
  ac_cons (so_icmp_lt dX6_in_2 (by decide) rfl) <|
  ac_cons (so_iload_n dX6_in_5 rfl rfl) <|
  ac_cons (so_iload_n dX6_in_6 rfl rfl) <|
  ac_cons (so_icmp_gt dX6_in_7 (by decide) rfl) <|
  ac_cons (so_iconst dX6_in_10 (by decide +kernel) rfl) <|
  ac_cons (so_goto dX6_in_11 (by decide)) <|
  ac_cons (so_iconst dX6_in_14 (by decide +kernel) rfl) <|
  ac_cons (so_zreturn rfl dX6_in_15) <| ac_nil
theorem C_X6_in : ac_Ct yX6_in M_X6_in T_X6_in := ac_meth (by decide +kernel) rfl rfl rfl rfl s_X6_in
-- X6_good
abbrev rm_X6_good : Room := { frames := 0, cells := 0, slots := 0, locals := 0 }
abbrev M_X6_good : ac_D := (RX6, "good", cX6_good, 3, some FieldType.boolean, [], rm_X6_good)
theorem tb_X6_good : ac_tb RX6 [] := fun q h => (by cases h)
theorem dy_X6_good : yX6_good.cls ≠ "java/lang/invoke/MethodHandle" ∧ yX6_good.cls ≠ "java/lang/invoke/VarHandle" ∧ (parseMethodDescriptor yX6_good.desc).map (fun d => d.parameters.length) = some 2 := by decide +kernel
def k_X6_good : List (Nat × ac_op) := [(0, op_aload 0 1),
  (1, op_iload 1 2),
  (2, op_if (fun x => x = 0) 9 5),
  (5, op_push (.int 0) 6),
  (6, op_goto 10),
  (9, op_iload 2 10),
  (10, op_put 9 11 13),
  (13, op_iload 1 14),
  (14, op_zreturn rm_X6_good)]
def T_X6_good : ac_T := ac_vc k_X6_good 3
set_option maxRecDepth 100000 in
set_option maxHeartbeats 4000000 in
theorem s_X6_good : ∀ x ∈ k_X6_good, ac_So M_X6_good (fun _ _ _ => False) x.1 x.2 :=
  ac_cons (so_aload_n dX6_good_0 rfl rfl) <|
  ac_cons (so_iload_n dX6_good_1 rfl rfl) <|
  ac_cons (so_if_eq dX6_good_2 (by decide) rfl) <|
  ac_cons (so_iconst dX6_good_5 (by decide +kernel) rfl) <|
  ac_cons (so_goto dX6_good_6 (by decide)) <|
  ac_cons (so_iload_n dX6_good_9 rfl rfl) <|
  ac_cons (so_put (ci := 9) (f := 11) rfl in_X6 tyX6_ok nmX6 (by decide) rfl rfl dX6_good_10 wd_642 rfl) <|
  ac_cons (so_iload_n dX6_good_13 rfl rfl) <|
  ac_cons (so_zreturn rfl dX6_good_14) <| ac_nil
theorem C_X6_good : ac_Ct yX6_good M_X6_good T_X6_good := ac_meth (by decide +kernel) rfl rfl rfl rfl s_X6_good
-- X6_known
abbrev rm_X6_known : Room := { frames := 1, cells := 0, slots := 0, locals := 22 }
abbrev M_X6_known : ac_D := (RX6, "known", cX6_known, 3, some FieldType.boolean, [], rm_X6_known)
theorem tb_X6_known : ac_tb RX6 [] := fun q h => (by cases h)
theorem dy_X6_known : yX6_known.cls ≠ "java/lang/invoke/MethodHandle" ∧ yX6_known.cls ≠ "java/lang/invoke/VarHandle" ∧ (parseMethodDescriptor yX6_known.desc).map (fun d => d.parameters.length) = some 2 := by decide +kernel
def k_X6_known : List (Nat × ac_op) := [(0, op_aload 0 1),
  (1, op_iload 1 2),
  (2, op_push (.int 0) 3),
  (3, op_push (.int 7) 5),
  (5, op_callS rm_X6_known [] T_X6_in rm_X6_in 3 5 8),
  (8, op_if (fun x => x = 0) 25 11),
  (11, op_iload 2 12),
  (12, op_push (.int 0) 13),
  (13, op_push (.int 7) 15),
  (15, op_callS rm_X6_known [] T_X6_in rm_X6_in 3 15 18),
  (18, op_if (fun x => x = 0) 25 21),
  (21, op_push (.int 1) 22),
  (22, op_goto 26),
  (25, op_push (.int 0) 26),
  (26, op_push (.int 1) 27),
  (27, op_callV rm_X6_known [] 9 T_X6_good rm_X6_good 2 27 30),
  (30, op_zreturn rm_X6_known)]
def T_X6_known : ac_T := ac_vc k_X6_known 3
set_option maxRecDepth 100000 in
set_option maxHeartbeats 4000000 in
theorem s_X6_known : ∀ x ∈ k_X6_known, ac_So M_X6_known (fun _ _ _ => False) x.1 x.2 :=
  ac_cons (so_aload_n dX6_known_0 rfl rfl) <|
  ac_cons (so_iload_n dX6_known_1 rfl rfl) <|
  ac_cons (so_iconst dX6_known_2 (by decide +kernel) rfl) <|
  ac_cons (so_bipush dX6_known_3 (by decide +kernel) rfl) <|
  ac_cons (so_callS (N := M_X6_in) C_X6_in rfl ⟨wd_679, wd_25, dy_X6_in, ⟨by decide, by decide⟩, tb_X6_known⟩ dX6_known_5 wd_677 wd_678 rfl) <|
  ac_cons (so_if_eq dX6_known_8 (by decide) rfl) <|
  ac_cons (so_iload_n dX6_known_11 rfl rfl) <|
  ac_cons (so_iconst dX6_known_12 (by decide +kernel) rfl) <|
  ac_cons (so_bipush dX6_known_13 (by decide +kernel) rfl) <|
  ac_cons (so_callS (N := M_X6_in) C_X6_in rfl ⟨wd_679, wd_25, dy_X6_in, ⟨by decide, by decide⟩, tb_X6_known⟩ dX6_known_15 wd_677 wd_678 rfl) <|
  ac_cons (so_if_eq dX6_known_18 (by decide) rfl) <|
  ac_cons (so_iconst dX6_known_21 (by decide +kernel) rfl) <|
  ac_cons (so_goto dX6_known_22 (by decide)) <|
  ac_cons (so_iconst dX6_known_25 (by decide +kernel) rfl) <|
  ac_cons (so_iconst dX6_known_26 (by decide +kernel) rfl) <|
  ac_cons (so_callV (N := M_X6_good) (ci := 9) C_X6_good rfl ⟨wd_683, wd_25, dy_X6_good, ⟨by decide, by decide⟩, tb_X6_known⟩ rfl dX6_known_27 wd_680 wd_682 wd_8 rfl) <|
  ac_cons (so_zreturn rfl dX6_known_30) <| ac_nil
theorem C_X6_known : ac_Ct yX6_known M_X6_known T_X6_known := ac_meth (by decide +kernel) rfl rfl rfl rfl s_X6_known
-- X6_fresh
abbrev rm_X6_fresh : Room := { frames := 0, cells := 0, slots := 0, locals := 0 }
abbrev M_X6_fresh : ac_D := (RX6, "fresh", cX6_fresh, 6, some FieldType.int, [], rm_X6_fresh)
theorem tb_X6_fresh : ac_tb RX6 [] := fun q h => (by cases h)
theorem dy_X6_fresh : yX6_fresh.cls ≠ "java/lang/invoke/MethodHandle" ∧ yX6_fresh.cls ≠ "java/lang/invoke/VarHandle" ∧ (parseMethodDescriptor yX6_fresh.desc).map (fun d => d.parameters.length) = some 3 := by decide +kernel
def k_X6_fresh : List (Nat × ac_op) := [(0, op_aload 0 1),
  (1, op_get 9 8 4),
  (4, op_istore 4 6),
  (6, op_aload 0 7),
  (7, op_dup 8),
  (8, op_get 9 8 11),
  (11, op_push (.int 1) 12),
  (12, op_ii (fun x y => x + y) 13),
  (13, op_put 9 8 16),
  (16, op_aload 0 17),
  (17, op_get 9 1 20),
  (20, op_iload 4 22),
  (22, op_iload 2 23),
  (23, op_iast 24),
  (24, op_aload 0 25),
  (25, op_get 9 2 28),
  (28, op_iload 4 30),
  (30, op_iload 3 31),
  (31, op_iast 32),
  (32, op_push (.int 0) 33),
  (33, op_istore 5 35),
  (35, op_iload 5 37),
  (37, op_push (.int 24) 39),
  (39, op_icmp (fun x y => y ≤ x) 86 42),
  (42, op_aload 0 43),
  (43, op_get 9 6 46),
  (46, op_push (.int 24) 48),
  (48, op_iload 4 50),
  (50, op_ii (fun x y => x * y) 51),
  (51, op_iload 5 53),
  (53, op_ii (fun x y => x + y) 54),
  (54, op_iload 2 55),
  (55, op_push (.int 8) 57),
  (57, op_icmp (fun x y => x = y) 72 60),
  (60, op_iload 2 61),
  (61, op_push (.int 10) 63),
  (63, op_icmp (fun x y => ¬ x = y) 78 66),
  (66, op_iload 5 68),
  (68, op_push (.int 1) 69),
  (69, op_icmp (fun x y => ¬ x = y) 78 72),
  (72, op_push (.long (-1)) 75),
  (75, op_goto 79),
  (78, op_push (.long 0) 79),
  (79, op_last 80),
  (80, op_iinc 5 1 83),
  (83, op_goto 35),
  (86, op_push (.int 0) 87),
  (87, op_istore 5 89),
  (89, op_iload 5 91),
  (91, op_push (.int 6) 93),
  (93, op_icmp (fun x y => y ≤ x) 116 96),
  (96, op_aload 0 97),
  (97, op_get 9 7 100),
  (100, op_push (.int 6) 102),
  (102, op_iload 4 104),
  (104, op_ii (fun x y => x * y) 105),
  (105, op_iload 5 107),
  (107, op_ii (fun x y => x + y) 108),
  (108, op_push (.int 0) 109),
  (109, op_zast 110),
  (110, op_iinc 5 1 113),
  (113, op_goto 89),
  (116, op_aload 0 117),
  (117, op_get 9 0 120),
  (120, op_iload 1 121),
  (121, op_iload 4 123),
  (123, op_iast 124),
  (124, op_aload 0 125),
  (125, op_get 9 8 128),
  (128, op_ireturn rm_X6_fresh)]
def T_X6_fresh : ac_T := ac_vc k_X6_fresh 6
set_option maxRecDepth 100000 in
set_option maxHeartbeats 4000000 in
theorem s_X6_fresh : ∀ x ∈ k_X6_fresh, ac_So M_X6_fresh (fun _ _ _ => False) x.1 x.2 :=
  ac_cons (so_aload_n dX6_fresh_0 rfl rfl) <|
  ac_cons (so_get (ci := 9) (f := 8) rfl in_X6 (by decide) dX6_fresh_1 wd_639 rfl) <|
  ac_cons (so_istore dX6_fresh_4 rfl) <|
  ac_cons (so_aload_n dX6_fresh_6 rfl rfl) <|
  ac_cons (so_dup dX6_fresh_7 rfl) <|
  ac_cons (so_get (ci := 9) (f := 8) rfl in_X6 (by decide) dX6_fresh_8 wd_639 rfl) <|
  ac_cons (so_iconst dX6_fresh_11 (by decide +kernel) rfl) <|
  ac_cons (so_iadd dX6_fresh_12 rfl) <|
  ac_cons (so_put (ci := 9) (f := 8) rfl in_X6 tyX6_ok nmX6 (by decide) rfl rfl dX6_fresh_13 wd_639 rfl) <|
  ac_cons (so_aload_n dX6_fresh_16 rfl rfl) <|
  ac_cons (so_get (ci := 9) (f := 1) rfl in_X6 (by decide) dX6_fresh_17 wd_632 rfl) <|
  ac_cons (so_iload dX6_fresh_20 rfl) <|
  ac_cons (so_iload_n dX6_fresh_22 rfl rfl) <|
  ac_cons (so_iast dX6_fresh_23 rfl) <|
  ac_cons (so_aload_n dX6_fresh_24 rfl rfl) <|
  ac_cons (so_get (ci := 9) (f := 2) rfl in_X6 (by decide) dX6_fresh_25 wd_633 rfl) <|
  ac_cons (so_iload dX6_fresh_28 rfl) <|
  ac_cons (so_iload_n dX6_fresh_30 rfl rfl) <|
  ac_cons (so_iast dX6_fresh_31 rfl) <|
  ac_cons (so_iconst dX6_fresh_32 (by decide +kernel) rfl) <|
  ac_cons (so_istore dX6_fresh_33 rfl) <|
  ac_cons (so_iload dX6_fresh_35 rfl) <|
  ac_cons (so_bipush dX6_fresh_37 (by decide +kernel) rfl) <|
  ac_cons (so_icmp_ge dX6_fresh_39 (by decide) rfl) <|
  ac_cons (so_aload_n dX6_fresh_42 rfl rfl) <|
  ac_cons (so_get (ci := 9) (f := 6) rfl in_X6 (by decide) dX6_fresh_43 wd_637 rfl) <|
  ac_cons (so_bipush dX6_fresh_46 (by decide +kernel) rfl) <|
  ac_cons (so_iload dX6_fresh_48 rfl) <|
  ac_cons (so_imul dX6_fresh_50 rfl) <|
  ac_cons (so_iload dX6_fresh_51 rfl) <|
  ac_cons (so_iadd dX6_fresh_53 rfl) <|
  ac_cons (so_iload_n dX6_fresh_54 rfl rfl) <|
  ac_cons (so_bipush dX6_fresh_55 (by decide +kernel) rfl) <|
  ac_cons (so_icmp_eq dX6_fresh_57 (by decide) rfl) <|
  ac_cons (so_iload_n dX6_fresh_60 rfl rfl) <|
  ac_cons (so_bipush dX6_fresh_61 (by decide +kernel) rfl) <|
  ac_cons (so_icmp_ne dX6_fresh_63 (by decide) rfl) <|
  ac_cons (so_iload dX6_fresh_66 rfl) <|
  ac_cons (so_iconst dX6_fresh_68 (by decide +kernel) rfl) <|
  ac_cons (so_icmp_ne dX6_fresh_69 (by decide) rfl) <|
  ac_cons (so_ldc2 dX6_fresh_72 wd_688 rfl) <|
  ac_cons (so_goto dX6_fresh_75 (by decide)) <|
  ac_cons (so_lconst dX6_fresh_78 (by decide +kernel) rfl) <|
  ac_cons (so_last dX6_fresh_79 rfl) <|
  ac_cons (so_iinc dX6_fresh_80 (by decide +kernel) rfl) <|
  ac_cons (so_goto dX6_fresh_83 (by decide)) <|
  ac_cons (so_iconst dX6_fresh_86 (by decide +kernel) rfl) <|
  ac_cons (so_istore dX6_fresh_87 rfl) <|
  ac_cons (so_iload dX6_fresh_89 rfl) <|
  ac_cons (so_bipush dX6_fresh_91 (by decide +kernel) rfl) <|
  ac_cons (so_icmp_ge dX6_fresh_93 (by decide) rfl) <|
  ac_cons (so_aload_n dX6_fresh_96 rfl rfl) <|
  ac_cons (so_get (ci := 9) (f := 7) rfl in_X6 (by decide) dX6_fresh_97 wd_638 rfl) <|
  ac_cons (so_bipush dX6_fresh_100 (by decide +kernel) rfl) <|
  ac_cons (so_iload dX6_fresh_102 rfl) <|
  ac_cons (so_imul dX6_fresh_104 rfl) <|
  ac_cons (so_iload dX6_fresh_105 rfl) <|
  ac_cons (so_iadd dX6_fresh_107 rfl) <|
  ac_cons (so_iconst dX6_fresh_108 (by decide +kernel) rfl) <|
  ac_cons (so_zast dX6_fresh_109 rfl) <|
  ac_cons (so_iinc dX6_fresh_110 (by decide +kernel) rfl) <|
  ac_cons (so_goto dX6_fresh_113 (by decide)) <|
  ac_cons (so_aload_n dX6_fresh_116 rfl rfl) <|
  ac_cons (so_get (ci := 9) (f := 0) rfl in_X6 (by decide) dX6_fresh_117 wd_631 rfl) <|
  ac_cons (so_iload_n dX6_fresh_120 rfl rfl) <|
  ac_cons (so_iload dX6_fresh_121 rfl) <|
  ac_cons (so_iast dX6_fresh_123 rfl) <|
  ac_cons (so_aload_n dX6_fresh_124 rfl rfl) <|
  ac_cons (so_get (ci := 9) (f := 8) rfl in_X6 (by decide) dX6_fresh_125 wd_639 rfl) <|
  ac_cons (so_ireturn rfl dX6_fresh_128) <| ac_nil
theorem C_X6_fresh : ac_Ct yX6_fresh M_X6_fresh T_X6_fresh := ac_meth (by decide +kernel) rfl rfl rfl rfl s_X6_fresh
-- X6_make
abbrev rm_X6_make : Room := { frames := 1, cells := 0, slots := 0, locals := 25 }
abbrev M_X6_make : ac_D := (RX6, "make", cX6_make, 4, some FieldType.int, [], rm_X6_make)
theorem tb_X6_make : ac_tb RX6 [] := fun q h => (by cases h)
theorem dy_X6_make : yX6_make.cls ≠ "java/lang/invoke/MethodHandle" ∧ yX6_make.cls ≠ "java/lang/invoke/VarHandle" ∧ (parseMethodDescriptor yX6_make.desc).map (fun d => d.parameters.length) = some 3 := by decide +kernel
def k_X6_make : List (Nat × ac_op) := [(0, op_aload 0 1),
  (1, op_iload 1 2),
  (2, op_push (.int 0) 3),
  (3, op_push (.int 7) 5),
  (5, op_callS rm_X6_make [] T_X6_in rm_X6_in 3 5 8),
  (8, op_if (fun x => x = 0) 31 11),
  (11, op_iload 2 12),
  (12, op_push (.int 0) 13),
  (13, op_push (.int 8) 15),
  (15, op_callS rm_X6_make [] T_X6_in rm_X6_in 3 15 18),
  (18, op_if (fun x => x = 0) 31 21),
  (21, op_iload 3 22),
  (22, op_push (.int 24) 24),
  (24, op_icmp (fun x y => y < x) 31 27),
  (27, op_push (.int 1) 28),
  (28, op_goto 32),
  (31, op_push (.int 0) 32),
  (32, op_push (.int 1) 33),
  (33, op_callV rm_X6_make [] 9 T_X6_good rm_X6_good 2 33 36),
  (36, op_if (fun x => x = 0) 56 39),
  (39, op_aload 0 40),
  (40, op_iload 3 41),
  (41, op_if (fun x => x < 0) 48 44),
  (44, op_push (.int 1) 45),
  (45, op_goto 49),
  (48, op_push (.int 0) 49),
  (49, op_push (.int 2) 50),
  (50, op_callV rm_X6_make [] 9 T_X6_good rm_X6_good 2 50 53),
  (53, op_if (fun x => ¬ x = 0) 58 56),
  (56, op_push (.int 0) 57),
  (57, op_ireturn rm_X6_make),
  (58, op_aload 0 59),
  (59, op_iload 1 60),
  (60, op_iload 2 61),
  (61, op_iload 3 62),
  (62, op_callV rm_X6_make [] 9 T_X6_fresh rm_X6_fresh 3 62 65),
  (65, op_ireturn rm_X6_make)]
def T_X6_make : ac_T := ac_vc k_X6_make 4
set_option maxRecDepth 100000 in
set_option maxHeartbeats 4000000 in
theorem s_X6_make : ∀ x ∈ k_X6_make, ac_So M_X6_make (fun _ _ _ => False) x.1 x.2 :=
  ac_cons (so_aload_n dX6_make_0 rfl rfl) <|
  ac_cons (so_iload_n dX6_make_1 rfl rfl) <|
  ac_cons (so_iconst dX6_make_2 (by decide +kernel) rfl) <|
  ac_cons (so_bipush dX6_make_3 (by decide +kernel) rfl) <|
  ac_cons (so_callS (N := M_X6_in) C_X6_in rfl ⟨wd_679, wd_25, dy_X6_in, ⟨by decide, by decide⟩, tb_X6_make⟩ dX6_make_5 wd_677 wd_678 rfl) <|
  ac_cons (so_if_eq dX6_make_8 (by decide) rfl) <|
  ac_cons (so_iload_n dX6_make_11 rfl rfl) <|
  ac_cons (so_iconst dX6_make_12 (by decide +kernel) rfl) <|
  ac_cons (so_bipush dX6_make_13 (by decide +kernel) rfl) <|
  ac_cons (so_callS (N := M_X6_in) C_X6_in rfl ⟨wd_679, wd_25, dy_X6_in, ⟨by decide, by decide⟩, tb_X6_make⟩ dX6_make_15 wd_677 wd_678 rfl) <|
  ac_cons (so_if_eq dX6_make_18 (by decide) rfl) <|
  ac_cons (so_iload_n dX6_make_21 rfl rfl) <|
  ac_cons (so_bipush dX6_make_22 (by decide +kernel) rfl) <|
  ac_cons (so_icmp_gt dX6_make_24 (by decide) rfl) <|
  ac_cons (so_iconst dX6_make_27 (by decide +kernel) rfl) <|
  ac_cons (so_goto dX6_make_28 (by decide)) <|
  ac_cons (so_iconst dX6_make_31 (by decide +kernel) rfl) <|
  ac_cons (so_iconst dX6_make_32 (by decide +kernel) rfl) <|
  ac_cons (so_callV (N := M_X6_good) (ci := 9) C_X6_good rfl ⟨wd_683, wd_25, dy_X6_good, ⟨by decide, by decide⟩, tb_X6_make⟩ rfl dX6_make_33 wd_680 wd_682 wd_8 rfl) <|
  ac_cons (so_if_eq dX6_make_36 (by decide) rfl) <|
  ac_cons (so_aload_n dX6_make_39 rfl rfl) <|
  ac_cons (so_iload_n dX6_make_40 rfl rfl) <|
  ac_cons (so_if_lt dX6_make_41 (by decide) rfl) <|
  ac_cons (so_iconst dX6_make_44 (by decide +kernel) rfl) <|
  ac_cons (so_goto dX6_make_45 (by decide)) <|
  ac_cons (so_iconst dX6_make_48 (by decide +kernel) rfl) <|
  ac_cons (so_iconst dX6_make_49 (by decide +kernel) rfl) <|
  ac_cons (so_callV (N := M_X6_good) (ci := 9) C_X6_good rfl ⟨wd_683, wd_25, dy_X6_good, ⟨by decide, by decide⟩, tb_X6_make⟩ rfl dX6_make_50 wd_680 wd_682 wd_8 rfl) <|
  ac_cons (so_if_ne dX6_make_53 (by decide) rfl) <|
  ac_cons (so_iconst dX6_make_56 (by decide +kernel) rfl) <|
  ac_cons (so_ireturn rfl dX6_make_57) <|
  ac_cons (so_aload_n dX6_make_58 rfl rfl) <|
  ac_cons (so_iload_n dX6_make_59 rfl rfl) <|
  ac_cons (so_iload_n dX6_make_60 rfl rfl) <|
  ac_cons (so_iload_n dX6_make_61 rfl rfl) <|
  ac_cons (so_callV (N := M_X6_fresh) (ci := 9) C_X6_fresh rfl ⟨wd_687, wd_25, dy_X6_fresh, ⟨by decide, by decide⟩, tb_X6_make⟩ rfl dX6_make_62 wd_684 wd_686 wd_9 rfl) <|
  ac_cons (so_ireturn rfl dX6_make_65) <| ac_nil
theorem C_X6_make : ac_Ct yX6_make M_X6_make T_X6_make := ac_meth (by decide +kernel) rfl rfl rfl rfl s_X6_make
-- X6_grid
abbrev rm_X6_grid : Room := { frames := 1, cells := 0, slots := 0, locals := 25 }
abbrev M_X6_grid : ac_D := (RX6, "grid", cX6_grid, 5, some FieldType.int, [], rm_X6_grid)
theorem tb_X6_grid : ac_tb RX6 [] := fun q h => (by cases h)
theorem dy_X6_grid : yX6_grid.cls ≠ "java/lang/invoke/MethodHandle" ∧ yX6_grid.cls ≠ "java/lang/invoke/VarHandle" ∧ (parseMethodDescriptor yX6_grid.desc).map (fun d => d.parameters.length) = some 3 := by decide +kernel
def k_X6_grid : List (Nat × ac_op) := [(0, op_aload 0 1),
  (1, op_iload 1 2),
  (2, op_push (.int 0) 3),
  (3, op_push (.int 7) 5),
  (5, op_callS rm_X6_grid [] T_X6_in rm_X6_in 3 5 8),
  (8, op_if (fun x => x = 0) 26 11),
  (11, op_iload 2 12),
  (12, op_push (.int 6) 14),
  (14, op_icmp (fun x y => y < x) 26 17),
  (17, op_iload 3 18),
  (18, op_push (.int 4) 19),
  (19, op_icmp (fun x y => y < x) 26 22),
  (22, op_push (.int 1) 23),
  (23, op_goto 27),
  (26, op_push (.int 0) 27),
  (27, op_push (.int 1) 28),
  (28, op_callV rm_X6_grid [] 9 T_X6_good rm_X6_good 2 28 31),
  (31, op_if (fun x => x = 0) 55 34),
  (34, op_aload 0 35),
  (35, op_iload 2 36),
  (36, op_if (fun x => x < 0) 47 39),
  (39, op_iload 3 40),
  (40, op_if (fun x => x < 0) 47 43),
  (43, op_push (.int 1) 44),
  (44, op_goto 48),
  (47, op_push (.int 0) 48),
  (48, op_push (.int 2) 49),
  (49, op_callV rm_X6_grid [] 9 T_X6_good rm_X6_good 2 49 52),
  (52, op_if (fun x => ¬ x = 0) 57 55),
  (55, op_push (.int 0) 56),
  (56, op_ireturn rm_X6_grid),
  (57, op_aload 0 58),
  (58, op_iload 1 59),
  (59, op_push (.int 9) 61),
  (61, op_iload 2 62),
  (62, op_callV rm_X6_grid [] 9 T_X6_fresh rm_X6_fresh 3 62 65),
  (65, op_istore 4 67),
  (67, op_aload 0 68),
  (68, op_get 9 3 71),
  (71, op_iload 4 73),
  (73, op_push (.int 1) 74),
  (74, op_ii (fun x y => x - y) 75),
  (75, op_iload 3 76),
  (76, op_iast 77),
  (77, op_iload 4 79),
  (79, op_ireturn rm_X6_grid)]
def T_X6_grid : ac_T := ac_vc k_X6_grid 5
set_option maxRecDepth 100000 in
set_option maxHeartbeats 4000000 in
theorem s_X6_grid : ∀ x ∈ k_X6_grid, ac_So M_X6_grid (fun _ _ _ => False) x.1 x.2 :=
  ac_cons (so_aload_n dX6_grid_0 rfl rfl) <|
  ac_cons (so_iload_n dX6_grid_1 rfl rfl) <|
  ac_cons (so_iconst dX6_grid_2 (by decide +kernel) rfl) <|
  ac_cons (so_bipush dX6_grid_3 (by decide +kernel) rfl) <|
  ac_cons (so_callS (N := M_X6_in) C_X6_in rfl ⟨wd_679, wd_25, dy_X6_in, ⟨by decide, by decide⟩, tb_X6_grid⟩ dX6_grid_5 wd_677 wd_678 rfl) <|
  ac_cons (so_if_eq dX6_grid_8 (by decide) rfl) <|
  ac_cons (so_iload_n dX6_grid_11 rfl rfl) <|
  ac_cons (so_bipush dX6_grid_12 (by decide +kernel) rfl) <|
  ac_cons (so_icmp_gt dX6_grid_14 (by decide) rfl) <|
  ac_cons (so_iload_n dX6_grid_17 rfl rfl) <|
  ac_cons (so_iconst dX6_grid_18 (by decide +kernel) rfl) <|
  ac_cons (so_icmp_gt dX6_grid_19 (by decide) rfl) <|
  ac_cons (so_iconst dX6_grid_22 (by decide +kernel) rfl) <|
  ac_cons (so_goto dX6_grid_23 (by decide)) <|
  ac_cons (so_iconst dX6_grid_26 (by decide +kernel) rfl) <|
  ac_cons (so_iconst dX6_grid_27 (by decide +kernel) rfl) <|
  ac_cons (so_callV (N := M_X6_good) (ci := 9) C_X6_good rfl ⟨wd_683, wd_25, dy_X6_good, ⟨by decide, by decide⟩, tb_X6_grid⟩ rfl dX6_grid_28 wd_680 wd_682 wd_8 rfl) <|
  ac_cons (so_if_eq dX6_grid_31 (by decide) rfl) <|
  ac_cons (so_aload_n dX6_grid_34 rfl rfl) <|
  ac_cons (so_iload_n dX6_grid_35 rfl rfl) <|
  ac_cons (so_if_lt dX6_grid_36 (by decide) rfl) <|
  ac_cons (so_iload_n dX6_grid_39 rfl rfl) <|
  ac_cons (so_if_lt dX6_grid_40 (by decide) rfl) <|
  ac_cons (so_iconst dX6_grid_43 (by decide +kernel) rfl) <|
  ac_cons (so_goto dX6_grid_44 (by decide)) <|
  ac_cons (so_iconst dX6_grid_47 (by decide +kernel) rfl) <|
  ac_cons (so_iconst dX6_grid_48 (by decide +kernel) rfl) <|
  ac_cons (so_callV (N := M_X6_good) (ci := 9) C_X6_good rfl ⟨wd_683, wd_25, dy_X6_good, ⟨by decide, by decide⟩, tb_X6_grid⟩ rfl dX6_grid_49 wd_680 wd_682 wd_8 rfl) <|
  ac_cons (so_if_ne dX6_grid_52 (by decide) rfl) <|
  ac_cons (so_iconst dX6_grid_55 (by decide +kernel) rfl) <|
  ac_cons (so_ireturn rfl dX6_grid_56) <|
  ac_cons (so_aload_n dX6_grid_57 rfl rfl) <|
  ac_cons (so_iload_n dX6_grid_58 rfl rfl) <|
  ac_cons (so_bipush dX6_grid_59 (by decide +kernel) rfl) <|
  ac_cons (so_iload_n dX6_grid_61 rfl rfl) <|
  ac_cons (so_callV (N := M_X6_fresh) (ci := 9) C_X6_fresh rfl ⟨wd_687, wd_25, dy_X6_fresh, ⟨by decide, by decide⟩, tb_X6_grid⟩ rfl dX6_grid_62 wd_684 wd_686 wd_9 rfl) <|
  ac_cons (so_istore dX6_grid_65 rfl) <|
  ac_cons (so_aload_n dX6_grid_67 rfl rfl) <|
  ac_cons (so_get (ci := 9) (f := 3) rfl in_X6 (by decide) dX6_grid_68 wd_634 rfl) <|
  ac_cons (so_iload dX6_grid_71 rfl) <|
  ac_cons (so_iconst dX6_grid_73 (by decide +kernel) rfl) <|
  ac_cons (so_isub dX6_grid_74 rfl) <|
  ac_cons (so_iload_n dX6_grid_75 rfl rfl) <|
  ac_cons (so_iast dX6_grid_76 rfl) <|
  ac_cons (so_iload dX6_grid_77 rfl) <|
  ac_cons (so_ireturn rfl dX6_grid_79) <| ac_nil
theorem C_X6_grid : ac_Ct yX6_grid M_X6_grid T_X6_grid := ac_meth (by decide +kernel) rfl rfl rfl rfl s_X6_grid
-- X6_record
abbrev rm_X6_record : Room := { frames := 1, cells := 0, slots := 0, locals := 25 }
abbrev M_X6_record : ac_D := (RX6, "record", cX6_record, 2, some FieldType.int, [], rm_X6_record)
theorem tb_X6_record : ac_tb RX6 [] := fun q h => (by cases h)
theorem dy_X6_record : yX6_record.cls ≠ "java/lang/invoke/MethodHandle" ∧ yX6_record.cls ≠ "java/lang/invoke/VarHandle" ∧ (parseMethodDescriptor yX6_record.desc).map (fun d => d.parameters.length) = some 1 := by decide +kernel
def k_X6_record : List (Nat × ac_op) := [(0, op_aload 0 1),
  (1, op_iload 1 2),
  (2, op_push (.int 0) 3),
  (3, op_push (.int 7) 5),
  (5, op_callS rm_X6_record [] T_X6_in rm_X6_in 3 5 8),
  (8, op_push (.int 1) 9),
  (9, op_callV rm_X6_record [] 9 T_X6_good rm_X6_good 2 9 12),
  (12, op_if (fun x => ¬ x = 0) 17 15),
  (15, op_push (.int 0) 16),
  (16, op_ireturn rm_X6_record),
  (17, op_aload 0 18),
  (18, op_iload 1 19),
  (19, op_push (.int 10) 21),
  (21, op_push (.int 0) 22),
  (22, op_callV rm_X6_record [] 9 T_X6_fresh rm_X6_fresh 3 22 25),
  (25, op_ireturn rm_X6_record)]
def T_X6_record : ac_T := ac_vc k_X6_record 2
set_option maxRecDepth 100000 in
set_option maxHeartbeats 4000000 in
theorem s_X6_record : ∀ x ∈ k_X6_record, ac_So M_X6_record (fun _ _ _ => False) x.1 x.2 :=
  ac_cons (so_aload_n dX6_record_0 rfl rfl) <|
  ac_cons (so_iload_n dX6_record_1 rfl rfl) <|
  ac_cons (so_iconst dX6_record_2 (by decide +kernel) rfl) <|
  ac_cons (so_bipush dX6_record_3 (by decide +kernel) rfl) <|
  ac_cons (so_callS (N := M_X6_in) C_X6_in rfl ⟨wd_679, wd_25, dy_X6_in, ⟨by decide, by decide⟩, tb_X6_record⟩ dX6_record_5 wd_677 wd_678 rfl) <|
  ac_cons (so_iconst dX6_record_8 (by decide +kernel) rfl) <|
  ac_cons (so_callV (N := M_X6_good) (ci := 9) C_X6_good rfl ⟨wd_683, wd_25, dy_X6_good, ⟨by decide, by decide⟩, tb_X6_record⟩ rfl dX6_record_9 wd_680 wd_682 wd_8 rfl) <|
  ac_cons (so_if_ne dX6_record_12 (by decide) rfl) <|
  ac_cons (so_iconst dX6_record_15 (by decide +kernel) rfl) <|
  ac_cons (so_ireturn rfl dX6_record_16) <|
  ac_cons (so_aload_n dX6_record_17 rfl rfl) <|
  ac_cons (so_iload_n dX6_record_18 rfl rfl) <|
  ac_cons (so_bipush dX6_record_19 (by decide +kernel) rfl) <|
  ac_cons (so_iconst dX6_record_21 (by decide +kernel) rfl) <|
  ac_cons (so_callV (N := M_X6_fresh) (ci := 9) C_X6_fresh rfl ⟨wd_687, wd_25, dy_X6_fresh, ⟨by decide, by decide⟩, tb_X6_record⟩ rfl dX6_record_22 wd_684 wd_686 wd_9 rfl) <|
  ac_cons (so_ireturn rfl dX6_record_25) <| ac_nil
theorem C_X6_record : ac_Ct yX6_record M_X6_record T_X6_record := ac_meth (by decide +kernel) rfl rfl rfl rfl s_X6_record
-- X6_bottom
abbrev rm_X6_bottom : Room := { frames := 0, cells := 0, slots := 0, locals := 0 }
abbrev M_X6_bottom : ac_D := (RX6, "bottom", cX6_bottom, 3, some FieldType.int, [], rm_X6_bottom)
theorem tb_X6_bottom : ac_tb RX6 [] := fun q h => (by cases h)
theorem dy_X6_bottom : yX6_bottom.cls ≠ "java/lang/invoke/MethodHandle" ∧ yX6_bottom.cls ≠ "java/lang/invoke/VarHandle" ∧ (parseMethodDescriptor yX6_bottom.desc).map (fun d => d.parameters.length) = some 1 := by decide +kernel
def k_X6_bottom : List (Nat × ac_op) := [(0, op_iload 1 1),
  (1, op_istore 2 2),
  (2, op_aload 0 3),
  (3, op_get 9 1 6),
  (6, op_iload 2 7),
  (7, op_iald 8),
  (8, op_push (.int 11) 10),
  (10, op_icmp (fun x y => ¬ x = y) 23 13),
  (13, op_aload 0 14),
  (14, op_get 9 4 17),
  (17, op_iload 2 18),
  (18, op_iald 19),
  (19, op_istore 2 20),
  (20, op_goto 2),
  (23, op_iload 2 24),
  (24, op_ireturn rm_X6_bottom)]
def T_X6_bottom : ac_T := ac_vc k_X6_bottom 3
set_option maxRecDepth 100000 in
set_option maxHeartbeats 4000000 in
theorem s_X6_bottom : ∀ x ∈ k_X6_bottom, ac_So M_X6_bottom (fun _ _ _ => False) x.1 x.2 :=
  ac_cons (so_iload_n dX6_bottom_0 rfl rfl) <|
  ac_cons (so_istore_n dX6_bottom_1 rfl rfl) <|
  ac_cons (so_aload_n dX6_bottom_2 rfl rfl) <|
  ac_cons (so_get (ci := 9) (f := 1) rfl in_X6 (by decide) dX6_bottom_3 wd_632 rfl) <|
  ac_cons (so_iload_n dX6_bottom_6 rfl rfl) <|
  ac_cons (so_iald dX6_bottom_7 rfl) <|
  ac_cons (so_bipush dX6_bottom_8 (by decide +kernel) rfl) <|
  ac_cons (so_icmp_ne dX6_bottom_10 (by decide) rfl) <|
  ac_cons (so_aload_n dX6_bottom_13 rfl rfl) <|
  ac_cons (so_get (ci := 9) (f := 4) rfl in_X6 (by decide) dX6_bottom_14 wd_635 rfl) <|
  ac_cons (so_iload_n dX6_bottom_17 rfl rfl) <|
  ac_cons (so_iald dX6_bottom_18 rfl) <|
  ac_cons (so_istore_n dX6_bottom_19 rfl rfl) <|
  ac_cons (so_goto dX6_bottom_20 (by decide)) <|
  ac_cons (so_iload_n dX6_bottom_23 rfl rfl) <|
  ac_cons (so_ireturn rfl dX6_bottom_24) <| ac_nil
theorem C_X6_bottom : ac_Ct yX6_bottom M_X6_bottom T_X6_bottom := ac_meth (by decide +kernel) rfl rfl rfl rfl s_X6_bottom
-- X6_sort
abbrev rm_X6_sort : Room := { frames := 1, cells := 0, slots := 0, locals := 22 }
abbrev M_X6_sort : ac_D := (RX6, "sort", cX6_sort, 2, some FieldType.int, [], rm_X6_sort)
theorem tb_X6_sort : ac_tb RX6 [] := fun q h => (by cases h)
theorem dy_X6_sort : yX6_sort.cls ≠ "java/lang/invoke/MethodHandle" ∧ yX6_sort.cls ≠ "java/lang/invoke/VarHandle" ∧ (parseMethodDescriptor yX6_sort.desc).map (fun d => d.parameters.length) = some 1 := by decide +kernel
def k_X6_sort : List (Nat × ac_op) := [(0, op_aload 0 1),
  (1, op_get 9 1 4),
  (4, op_aload 0 5),
  (5, op_iload 1 6),
  (6, op_callV rm_X6_sort [] 9 T_X6_bottom rm_X6_bottom 1 6 9),
  (9, op_iald 10),
  (10, op_ireturn rm_X6_sort)]
def T_X6_sort : ac_T := ac_vc k_X6_sort 2
set_option maxRecDepth 100000 in
set_option maxHeartbeats 4000000 in
theorem s_X6_sort : ∀ x ∈ k_X6_sort, ac_So M_X6_sort (fun _ _ _ => False) x.1 x.2 :=
  ac_cons (so_aload_n dX6_sort_0 rfl rfl) <|
  ac_cons (so_get (ci := 9) (f := 1) rfl in_X6 (by decide) dX6_sort_1 wd_632 rfl) <|
  ac_cons (so_aload_n dX6_sort_4 rfl rfl) <|
  ac_cons (so_iload_n dX6_sort_5 rfl rfl) <|
  ac_cons (so_callV (N := M_X6_bottom) (ci := 9) C_X6_bottom rfl ⟨wd_740, wd_25, dy_X6_bottom, ⟨by decide, by decide⟩, tb_X6_sort⟩ rfl dX6_sort_6 wd_737 wd_739 wd_14 rfl) <|
  ac_cons (so_iald dX6_sort_9 rfl) <|
  ac_cons (so_ireturn rfl dX6_sort_10) <| ac_nil
theorem C_X6_sort : ac_Ct yX6_sort M_X6_sort T_X6_sort := ac_meth (by decide +kernel) rfl rfl rfl rfl s_X6_sort
-- X6_windows
abbrev rm_X6_windows : Room := { frames := 0, cells := 0, slots := 0, locals := 0 }
abbrev M_X6_windows : ac_D := (RX6, "windows", cX6_windows, 4, some FieldType.int, [], rm_X6_windows)
theorem tb_X6_windows : ac_tb RX6 [] := fun q h => (by cases h)
theorem dy_X6_windows : yX6_windows.cls ≠ "java/lang/invoke/MethodHandle" ∧ yX6_windows.cls ≠ "java/lang/invoke/VarHandle" ∧ (parseMethodDescriptor yX6_windows.desc).map (fun d => d.parameters.length) = some 1 := by decide +kernel
def k_X6_windows : List (Nat × ac_op) := [(0, op_push (.int 0) 1),
  (1, op_istore 2 2),
  (2, op_iload 1 3),
  (3, op_istore 3 4),
  (4, op_aload 0 5),
  (5, op_get 9 1 8),
  (8, op_iload 3 9),
  (9, op_iald 10),
  (10, op_push (.int 11) 12),
  (12, op_icmp (fun x y => ¬ x = y) 28 15),
  (15, op_iinc 2 1 18),
  (18, op_aload 0 19),
  (19, op_get 9 4 22),
  (22, op_iload 3 23),
  (23, op_iald 24),
  (24, op_istore 3 25),
  (25, op_goto 4),
  (28, op_iload 2 29),
  (29, op_ireturn rm_X6_windows)]
def T_X6_windows : ac_T := ac_vc k_X6_windows 4
set_option maxRecDepth 100000 in
set_option maxHeartbeats 4000000 in
theorem s_X6_windows : ∀ x ∈ k_X6_windows, ac_So M_X6_windows (fun _ _ _ => False) x.1 x.2 :=
  ac_cons (so_iconst dX6_windows_0 (by decide +kernel) rfl) <|
  ac_cons (so_istore_n dX6_windows_1 rfl rfl) <|
  ac_cons (so_iload_n dX6_windows_2 rfl rfl) <|
  ac_cons (so_istore_n dX6_windows_3 rfl rfl) <|
  ac_cons (so_aload_n dX6_windows_4 rfl rfl) <|
  ac_cons (so_get (ci := 9) (f := 1) rfl in_X6 (by decide) dX6_windows_5 wd_632 rfl) <|
  ac_cons (so_iload_n dX6_windows_8 rfl rfl) <|
  ac_cons (so_iald dX6_windows_9 rfl) <|
  ac_cons (so_bipush dX6_windows_10 (by decide +kernel) rfl) <|
  ac_cons (so_icmp_ne dX6_windows_12 (by decide) rfl) <|
  ac_cons (so_iinc dX6_windows_15 (by decide +kernel) rfl) <|
  ac_cons (so_aload_n dX6_windows_18 rfl rfl) <|
  ac_cons (so_get (ci := 9) (f := 4) rfl in_X6 (by decide) dX6_windows_19 wd_635 rfl) <|
  ac_cons (so_iload_n dX6_windows_22 rfl rfl) <|
  ac_cons (so_iald dX6_windows_23 rfl) <|
  ac_cons (so_istore_n dX6_windows_24 rfl rfl) <|
  ac_cons (so_goto dX6_windows_25 (by decide)) <|
  ac_cons (so_iload_n dX6_windows_28 rfl rfl) <|
  ac_cons (so_ireturn rfl dX6_windows_29) <| ac_nil
theorem C_X6_windows : ac_Ct yX6_windows M_X6_windows T_X6_windows := ac_meth (by decide +kernel) rfl rfl rfl rfl s_X6_windows
-- X6_window
abbrev rm_X6_window : Room := { frames := 2, cells := 0, slots := 0, locals := 44 }
abbrev M_X6_window : ac_D := (RX6, "window", cX6_window, 6, some FieldType.int, [], rm_X6_window)
theorem tb_X6_window : ac_tb RX6 [] := fun q h => (by cases h)
theorem dy_X6_window : yX6_window.cls ≠ "java/lang/invoke/MethodHandle" ∧ yX6_window.cls ≠ "java/lang/invoke/VarHandle" ∧ (parseMethodDescriptor yX6_window.desc).map (fun d => d.parameters.length) = some 3 := by decide +kernel
def k_X6_window : List (Nat × ac_op) := [(0, op_aload 0 1),
  (1, op_iload 1 2),
  (2, op_iload 2 3),
  (3, op_callV rm_X6_window [] 9 T_X6_known rm_X6_known 2 3 6),
  (6, op_if (fun x => ¬ x = 0) 11 9),
  (9, op_push (.int 0) 10),
  (10, op_ireturn rm_X6_window),
  (11, op_aload 0 12),
  (12, op_get 9 0 15),
  (15, op_iload 2 16),
  (16, op_iald 17),
  (17, op_istore 4 19),
  (19, op_aload 0 20),
  (20, op_iload 4 22),
  (22, op_if (fun x => x < 0) 29 25),
  (25, op_push (.int 1) 26),
  (26, op_goto 30),
  (29, op_push (.int 0) 30),
  (30, op_push (.int 2) 31),
  (31, op_callV rm_X6_window [] 9 T_X6_good rm_X6_good 2 31 34),
  (34, op_if (fun x => x = 0) 98 37),
  (37, op_aload 0 38),
  (38, op_aload 0 39),
  (39, op_get 9 1 42),
  (42, op_iload 4 44),
  (44, op_iald 45),
  (45, op_push (.int 9) 47),
  (47, op_icmp (fun x y => x = y) 66 50),
  (50, op_aload 0 51),
  (51, op_get 9 1 54),
  (54, op_iload 4 56),
  (56, op_iald 57),
  (57, op_push (.int 10) 59),
  (59, op_icmp (fun x y => x = y) 66 62),
  (62, op_push (.int 1) 63),
  (63, op_goto 67),
  (66, op_push (.int 0) 67),
  (67, op_push (.int 3) 68),
  (68, op_callV rm_X6_window [] 9 T_X6_good rm_X6_good 2 68 71),
  (71, op_if (fun x => x = 0) 98 74),
  (74, op_aload 0 75),
  (75, op_aload 0 76),
  (76, op_iload 4 78),
  (78, op_callV rm_X6_window [] 9 T_X6_windows rm_X6_windows 1 78 81),
  (81, op_push (.int 6) 83),
  (83, op_icmp (fun x y => y ≤ x) 90 86),
  (86, op_push (.int 1) 87),
  (87, op_goto 91),
  (90, op_push (.int 0) 91),
  (91, op_push (.int 4) 92),
  (92, op_callV rm_X6_window [] 9 T_X6_good rm_X6_good 2 92 95),
  (95, op_if (fun x => ¬ x = 0) 100 98),
  (98, op_push (.int 0) 99),
  (99, op_ireturn rm_X6_window),
  (100, op_aload 0 101),
  (101, op_iload 1 102),
  (102, op_push (.int 11) 104),
  (104, op_push (.int 0) 105),
  (105, op_callV rm_X6_window [] 9 T_X6_fresh rm_X6_fresh 3 105 108),
  (108, op_istore 5 110),
  (110, op_aload 0 111),
  (111, op_get 9 4 114),
  (114, op_iload 5 116),
  (116, op_push (.int 1) 117),
  (117, op_ii (fun x y => x - y) 118),
  (118, op_iload 4 120),
  (120, op_iast 121),
  (121, op_aload 0 122),
  (122, op_get 9 5 125),
  (125, op_iload 5 127),
  (127, op_push (.int 1) 128),
  (128, op_ii (fun x y => x - y) 129),
  (129, op_iload 3 130),
  (130, op_iast 131),
  (131, op_iload 5 133),
  (133, op_ireturn rm_X6_window)]
def T_X6_window : ac_T := ac_vc k_X6_window 6
set_option maxRecDepth 100000 in
set_option maxHeartbeats 4000000 in
theorem s_X6_window : ∀ x ∈ k_X6_window, ac_So M_X6_window (fun _ _ _ => False) x.1 x.2 :=
  ac_cons (so_aload_n dX6_window_0 rfl rfl) <|
  ac_cons (so_iload_n dX6_window_1 rfl rfl) <|
  ac_cons (so_iload_n dX6_window_2 rfl rfl) <|
  ac_cons (so_callV (N := M_X6_known) (ci := 9) C_X6_known rfl ⟨wd_704, wd_25, dy_X6_known, ⟨by decide, by decide⟩, tb_X6_window⟩ rfl dX6_window_3 wd_701 wd_703 wd_10 rfl) <|
  ac_cons (so_if_ne dX6_window_6 (by decide) rfl) <|
  ac_cons (so_iconst dX6_window_9 (by decide +kernel) rfl) <|
  ac_cons (so_ireturn rfl dX6_window_10) <|
  ac_cons (so_aload_n dX6_window_11 rfl rfl) <|
  ac_cons (so_get (ci := 9) (f := 0) rfl in_X6 (by decide) dX6_window_12 wd_631 rfl) <|
  ac_cons (so_iload_n dX6_window_15 rfl rfl) <|
  ac_cons (so_iald dX6_window_16 rfl) <|
  ac_cons (so_istore dX6_window_17 rfl) <|
  ac_cons (so_aload_n dX6_window_19 rfl rfl) <|
  ac_cons (so_iload dX6_window_20 rfl) <|
  ac_cons (so_if_lt dX6_window_22 (by decide) rfl) <|
  ac_cons (so_iconst dX6_window_25 (by decide +kernel) rfl) <|
  ac_cons (so_goto dX6_window_26 (by decide)) <|
  ac_cons (so_iconst dX6_window_29 (by decide +kernel) rfl) <|
  ac_cons (so_iconst dX6_window_30 (by decide +kernel) rfl) <|
  ac_cons (so_callV (N := M_X6_good) (ci := 9) C_X6_good rfl ⟨wd_683, wd_25, dy_X6_good, ⟨by decide, by decide⟩, tb_X6_window⟩ rfl dX6_window_31 wd_680 wd_682 wd_8 rfl) <|
  ac_cons (so_if_eq dX6_window_34 (by decide) rfl) <|
  ac_cons (so_aload_n dX6_window_37 rfl rfl) <|
  ac_cons (so_aload_n dX6_window_38 rfl rfl) <|
  ac_cons (so_get (ci := 9) (f := 1) rfl in_X6 (by decide) dX6_window_39 wd_632 rfl) <|
  ac_cons (so_iload dX6_window_42 rfl) <|
  ac_cons (so_iald dX6_window_44 rfl) <|
  ac_cons (so_bipush dX6_window_45 (by decide +kernel) rfl) <|
  ac_cons (so_icmp_eq dX6_window_47 (by decide) rfl) <|
  ac_cons (so_aload_n dX6_window_50 rfl rfl) <|
  ac_cons (so_get (ci := 9) (f := 1) rfl in_X6 (by decide) dX6_window_51 wd_632 rfl) <|
  ac_cons (so_iload dX6_window_54 rfl) <|
  ac_cons (so_iald dX6_window_56 rfl) <|
  ac_cons (so_bipush dX6_window_57 (by decide +kernel) rfl) <|
  ac_cons (so_icmp_eq dX6_window_59 (by decide) rfl) <|
  ac_cons (so_iconst dX6_window_62 (by decide +kernel) rfl) <|
  ac_cons (so_goto dX6_window_63 (by decide)) <|
  ac_cons (so_iconst dX6_window_66 (by decide +kernel) rfl) <|
  ac_cons (so_iconst dX6_window_67 (by decide +kernel) rfl) <|
  ac_cons (so_callV (N := M_X6_good) (ci := 9) C_X6_good rfl ⟨wd_683, wd_25, dy_X6_good, ⟨by decide, by decide⟩, tb_X6_window⟩ rfl dX6_window_68 wd_680 wd_682 wd_8 rfl) <|
  ac_cons (so_if_eq dX6_window_71 (by decide) rfl) <|
  ac_cons (so_aload_n dX6_window_74 rfl rfl) <|
  ac_cons (so_aload_n dX6_window_75 rfl rfl) <|
  ac_cons (so_iload dX6_window_76 rfl) <|
  ac_cons (so_callV (N := M_X6_windows) (ci := 9) C_X6_windows rfl ⟨wd_708, wd_25, dy_X6_windows, ⟨by decide, by decide⟩, tb_X6_window⟩ rfl dX6_window_78 wd_705 wd_707 wd_11 rfl) <|
  ac_cons (so_bipush dX6_window_81 (by decide +kernel) rfl) <|
  ac_cons (so_icmp_ge dX6_window_83 (by decide) rfl) <|
  ac_cons (so_iconst dX6_window_86 (by decide +kernel) rfl) <|
  ac_cons (so_goto dX6_window_87 (by decide)) <|
  ac_cons (so_iconst dX6_window_90 (by decide +kernel) rfl) <|
  ac_cons (so_iconst dX6_window_91 (by decide +kernel) rfl) <|
  ac_cons (so_callV (N := M_X6_good) (ci := 9) C_X6_good rfl ⟨wd_683, wd_25, dy_X6_good, ⟨by decide, by decide⟩, tb_X6_window⟩ rfl dX6_window_92 wd_680 wd_682 wd_8 rfl) <|
  ac_cons (so_if_ne dX6_window_95 (by decide) rfl) <|
  ac_cons (so_iconst dX6_window_98 (by decide +kernel) rfl) <|
  ac_cons (so_ireturn rfl dX6_window_99) <|
  ac_cons (so_aload_n dX6_window_100 rfl rfl) <|
  ac_cons (so_iload_n dX6_window_101 rfl rfl) <|
  ac_cons (so_bipush dX6_window_102 (by decide +kernel) rfl) <|
  ac_cons (so_iconst dX6_window_104 (by decide +kernel) rfl) <|
  ac_cons (so_callV (N := M_X6_fresh) (ci := 9) C_X6_fresh rfl ⟨wd_687, wd_25, dy_X6_fresh, ⟨by decide, by decide⟩, tb_X6_window⟩ rfl dX6_window_105 wd_684 wd_686 wd_9 rfl) <|
  ac_cons (so_istore dX6_window_108 rfl) <|
  ac_cons (so_aload_n dX6_window_110 rfl rfl) <|
  ac_cons (so_get (ci := 9) (f := 4) rfl in_X6 (by decide) dX6_window_111 wd_635 rfl) <|
  ac_cons (so_iload dX6_window_114 rfl) <|
  ac_cons (so_iconst dX6_window_116 (by decide +kernel) rfl) <|
  ac_cons (so_isub dX6_window_117 rfl) <|
  ac_cons (so_iload dX6_window_118 rfl) <|
  ac_cons (so_iast dX6_window_120 rfl) <|
  ac_cons (so_aload_n dX6_window_121 rfl rfl) <|
  ac_cons (so_get (ci := 9) (f := 5) rfl in_X6 (by decide) dX6_window_122 wd_636 rfl) <|
  ac_cons (so_iload dX6_window_125 rfl) <|
  ac_cons (so_iconst dX6_window_127 (by decide +kernel) rfl) <|
  ac_cons (so_isub dX6_window_128 rfl) <|
  ac_cons (so_iload_n dX6_window_129 rfl rfl) <|
  ac_cons (so_iast dX6_window_130 rfl) <|
  ac_cons (so_iload dX6_window_131 rfl) <|
  ac_cons (so_ireturn rfl dX6_window_133) <| ac_nil
theorem C_X6_window : ac_Ct yX6_window M_X6_window T_X6_window := ac_meth (by decide +kernel) rfl rfl rfl rfl s_X6_window
-- X6_copy
abbrev rm_X6_copy : Room := { frames := 1, cells := 0, slots := 0, locals := 22 }
abbrev M_X6_copy : ac_D := (RX6, "copy", cX6_copy, 5, some FieldType.boolean, [], rm_X6_copy)
theorem tb_X6_copy : ac_tb RX6 [] := fun q h => (by cases h)
theorem dy_X6_copy : yX6_copy.cls ≠ "java/lang/invoke/MethodHandle" ∧ yX6_copy.cls ≠ "java/lang/invoke/VarHandle" ∧ (parseMethodDescriptor yX6_copy.desc).map (fun d => d.parameters.length) = some 2 := by decide +kernel
def k_X6_copy : List (Nat × ac_op) := [(0, op_aload 0 1),
  (1, op_iload 1 2),
  (2, op_push (.int 0) 3),
  (3, op_push (.int 7) 5),
  (5, op_callS rm_X6_copy [] T_X6_in rm_X6_in 3 5 8),
  (8, op_if (fun x => x = 0) 25 11),
  (11, op_iload 2 12),
  (12, op_push (.int (-1)) 13),
  (13, op_push (.int 7) 15),
  (15, op_callS rm_X6_copy [] T_X6_in rm_X6_in 3 15 18),
  (18, op_if (fun x => x = 0) 25 21),
  (21, op_push (.int 1) 22),
  (22, op_goto 26),
  (25, op_push (.int 0) 26),
  (26, op_push (.int 1) 27),
  (27, op_callV rm_X6_copy [] 9 T_X6_good rm_X6_good 2 27 30),
  (30, op_if (fun x => ¬ x = 0) 35 33),
  (33, op_push (.int 0) 34),
  (34, op_zreturn rm_X6_copy),
  (35, op_iload 2 36),
  (36, op_if (fun x => 0 ≤ x) 43 39),
  (39, op_push (.int (-1)) 40),
  (40, op_goto 49),
  (43, op_aload 0 44),
  (44, op_get 9 0 47),
  (47, op_iload 2 48),
  (48, op_iald 49),
  (49, op_istore 3 50),
  (50, op_aload 0 51),
  (51, op_get 9 0 54),
  (54, op_iload 1 55),
  (55, op_iald 56),
  (56, op_iload 3 57),
  (57, op_icmp (fun x y => ¬ x = y) 64 60),
  (60, op_push (.int 1) 61),
  (61, op_goto 65),
  (64, op_push (.int 0) 65),
  (65, op_istore 4 67),
  (67, op_aload 0 68),
  (68, op_get 9 0 71),
  (71, op_iload 1 72),
  (72, op_iload 3 73),
  (73, op_iast 74),
  (74, op_iload 4 76),
  (76, op_zreturn rm_X6_copy)]
def T_X6_copy : ac_T := ac_vc k_X6_copy 5
set_option maxRecDepth 100000 in
set_option maxHeartbeats 4000000 in
theorem s_X6_copy : ∀ x ∈ k_X6_copy, ac_So M_X6_copy (fun _ _ _ => False) x.1 x.2 :=
  ac_cons (so_aload_n dX6_copy_0 rfl rfl) <|
  ac_cons (so_iload_n dX6_copy_1 rfl rfl) <|
  ac_cons (so_iconst dX6_copy_2 (by decide +kernel) rfl) <|
  ac_cons (so_bipush dX6_copy_3 (by decide +kernel) rfl) <|
  ac_cons (so_callS (N := M_X6_in) C_X6_in rfl ⟨wd_679, wd_25, dy_X6_in, ⟨by decide, by decide⟩, tb_X6_copy⟩ dX6_copy_5 wd_677 wd_678 rfl) <|
  ac_cons (so_if_eq dX6_copy_8 (by decide) rfl) <|
  ac_cons (so_iload_n dX6_copy_11 rfl rfl) <|
  ac_cons (so_iconst dX6_copy_12 (by decide +kernel) rfl) <|
  ac_cons (so_bipush dX6_copy_13 (by decide +kernel) rfl) <|
  ac_cons (so_callS (N := M_X6_in) C_X6_in rfl ⟨wd_679, wd_25, dy_X6_in, ⟨by decide, by decide⟩, tb_X6_copy⟩ dX6_copy_15 wd_677 wd_678 rfl) <|
  ac_cons (so_if_eq dX6_copy_18 (by decide) rfl) <|
  ac_cons (so_iconst dX6_copy_21 (by decide +kernel) rfl) <|
  ac_cons (so_goto dX6_copy_22 (by decide)) <|
  ac_cons (so_iconst dX6_copy_25 (by decide +kernel) rfl) <|
  ac_cons (so_iconst dX6_copy_26 (by decide +kernel) rfl) <|
  ac_cons (so_callV (N := M_X6_good) (ci := 9) C_X6_good rfl ⟨wd_683, wd_25, dy_X6_good, ⟨by decide, by decide⟩, tb_X6_copy⟩ rfl dX6_copy_27 wd_680 wd_682 wd_8 rfl) <|
  ac_cons (so_if_ne dX6_copy_30 (by decide) rfl) <|
  ac_cons (so_iconst dX6_copy_33 (by decide +kernel) rfl) <|
  ac_cons (so_zreturn rfl dX6_copy_34) <|
  ac_cons (so_iload_n dX6_copy_35 rfl rfl) <|
  ac_cons (so_if_ge dX6_copy_36 (by decide) rfl) <|
  ac_cons (so_iconst dX6_copy_39 (by decide +kernel) rfl) <|
  ac_cons (so_goto dX6_copy_40 (by decide)) <|
  ac_cons (so_aload_n dX6_copy_43 rfl rfl) <|
  ac_cons (so_get (ci := 9) (f := 0) rfl in_X6 (by decide) dX6_copy_44 wd_631 rfl) <|
  ac_cons (so_iload_n dX6_copy_47 rfl rfl) <|
  ac_cons (so_iald dX6_copy_48 rfl) <|
  ac_cons (so_istore_n dX6_copy_49 rfl rfl) <|
  ac_cons (so_aload_n dX6_copy_50 rfl rfl) <|
  ac_cons (so_get (ci := 9) (f := 0) rfl in_X6 (by decide) dX6_copy_51 wd_631 rfl) <|
  ac_cons (so_iload_n dX6_copy_54 rfl rfl) <|
  ac_cons (so_iald dX6_copy_55 rfl) <|
  ac_cons (so_iload_n dX6_copy_56 rfl rfl) <|
  ac_cons (so_icmp_ne dX6_copy_57 (by decide) rfl) <|
  ac_cons (so_iconst dX6_copy_60 (by decide +kernel) rfl) <|
  ac_cons (so_goto dX6_copy_61 (by decide)) <|
  ac_cons (so_iconst dX6_copy_64 (by decide +kernel) rfl) <|
  ac_cons (so_istore dX6_copy_65 rfl) <|
  ac_cons (so_aload_n dX6_copy_67 rfl rfl) <|
  ac_cons (so_get (ci := 9) (f := 0) rfl in_X6 (by decide) dX6_copy_68 wd_631 rfl) <|
  ac_cons (so_iload_n dX6_copy_71 rfl rfl) <|
  ac_cons (so_iload_n dX6_copy_72 rfl rfl) <|
  ac_cons (so_iast dX6_copy_73 rfl) <|
  ac_cons (so_iload dX6_copy_74 rfl) <|
  ac_cons (so_zreturn rfl dX6_copy_76) <| ac_nil
theorem C_X6_copy : ac_Ct yX6_copy M_X6_copy T_X6_copy := ac_meth (by decide +kernel) rfl rfl rfl rfl s_X6_copy
-- X6_lose
abbrev rm_X6_lose : Room := { frames := 2, cells := 0, slots := 0, locals := 44 }
abbrev M_X6_lose : ac_D := (RX6, "lose", cX6_lose, 6, some FieldType.int, [], rm_X6_lose)
theorem tb_X6_lose : ac_tb RX6 [] := fun q h => (by cases h)
theorem dy_X6_lose : yX6_lose.cls ≠ "java/lang/invoke/MethodHandle" ∧ yX6_lose.cls ≠ "java/lang/invoke/VarHandle" ∧ (parseMethodDescriptor yX6_lose.desc).map (fun d => d.parameters.length) = some 2 := by decide +kernel
def k_X6_lose : List (Nat × ac_op) := [(0, op_aload 0 1),
  (1, op_iload 1 2),
  (2, op_push (.int 0) 3),
  (3, op_callV rm_X6_lose [] 9 T_X6_known rm_X6_known 2 3 6),
  (6, op_if (fun x => ¬ x = 0) 11 9),
  (9, op_push (.int 0) 10),
  (10, op_ireturn rm_X6_lose),
  (11, op_aload 0 12),
  (12, op_get 9 0 15),
  (15, op_iload 1 16),
  (16, op_iald 17),
  (17, op_istore 3 18),
  (18, op_aload 0 19),
  (19, op_iload 3 20),
  (20, op_if (fun x => x < 0) 27 23),
  (23, op_push (.int 1) 24),
  (24, op_goto 28),
  (27, op_push (.int 0) 28),
  (28, op_push (.int 2) 29),
  (29, op_callV rm_X6_lose [] 9 T_X6_good rm_X6_good 2 29 32),
  (32, op_if (fun x => x = 0) 59 35),
  (35, op_aload 0 36),
  (36, op_aload 0 37),
  (37, op_get 9 1 40),
  (40, op_iload 3 41),
  (41, op_iald 42),
  (42, op_push (.int 10) 44),
  (44, op_icmp (fun x y => y ≤ x) 51 47),
  (47, op_push (.int 1) 48),
  (48, op_goto 52),
  (51, op_push (.int 0) 52),
  (52, op_push (.int 3) 53),
  (53, op_callV rm_X6_lose [] 9 T_X6_good rm_X6_good 2 53 56),
  (56, op_if (fun x => ¬ x = 0) 61 59),
  (59, op_push (.int 0) 60),
  (60, op_ireturn rm_X6_lose),
  (61, op_aload 0 62),
  (62, op_get 9 1 65),
  (65, op_iload 3 66),
  (66, op_iald 67),
  (67, op_push (.int 9) 69),
  (69, op_icmp (fun x y => ¬ x = y) 76 72),
  (72, op_push (.int 1) 73),
  (73, op_goto 77),
  (76, op_push (.int 0) 77),
  (77, op_istore 4 79),
  (79, op_iload 4 81),
  (81, op_if (fun x => x = 0) 107 84),
  (84, op_aload 0 85),
  (85, op_iload 2 86),
  (86, op_push (.int 0) 87),
  (87, op_aload 0 88),
  (88, op_get 9 2 91),
  (91, op_iload 3 92),
  (92, op_iald 93),
  (93, op_push (.int 1) 94),
  (94, op_ii (fun x y => x - y) 95),
  (95, op_callS rm_X6_lose [] T_X6_in rm_X6_in 3 95 98),
  (98, op_push (.int 4) 99),
  (99, op_callV rm_X6_lose [] 9 T_X6_good rm_X6_good 2 99 102),
  (102, op_if (fun x => ¬ x = 0) 107 105),
  (105, op_push (.int 0) 106),
  (106, op_ireturn rm_X6_lose),
  (107, op_push (.int 6) 109),
  (109, op_iload 3 110),
  (110, op_ii (fun x y => x * y) 111),
  (111, op_iload 4 113),
  (113, op_if (fun x => x = 0) 120 116),
  (116, op_iload 2 117),
  (117, op_goto 121),
  (120, op_push (.int 0) 121),
  (121, op_ii (fun x y => x + y) 122),
  (122, op_istore 5 124),
  (124, op_aload 0 125),
  (125, op_aload 0 126),
  (126, op_get 9 7 129),
  (129, op_iload 5 131),
  (131, op_zald 132),
  (132, op_if (fun x => ¬ x = 0) 139 135),
  (135, op_push (.int 1) 136),
  (136, op_goto 140),
  (139, op_push (.int 0) 140),
  (140, op_push (.int 2) 141),
  (141, op_callV rm_X6_lose [] 9 T_X6_good rm_X6_good 2 141 144),
  (144, op_if (fun x => ¬ x = 0) 149 147),
  (147, op_push (.int 0) 148),
  (148, op_ireturn rm_X6_lose),
  (149, op_aload 0 150),
  (150, op_get 9 7 153),
  (153, op_iload 5 155),
  (155, op_push (.int 1) 156),
  (156, op_zast 157),
  (157, op_iload 4 159),
  (159, op_if (fun x => x = 0) 171 162),
  (162, op_aload 0 163),
  (163, op_get 9 3 166),
  (166, op_iload 3 167),
  (167, op_iald 168),
  (168, op_goto 177),
  (171, op_aload 0 172),
  (172, op_get 9 2 175),
  (175, op_iload 3 176),
  (176, op_iald 177),
  (177, op_ireturn rm_X6_lose)]
def T_X6_lose : ac_T := ac_vc k_X6_lose 6
set_option maxRecDepth 100000 in
set_option maxHeartbeats 4000000 in
theorem s_X6_lose : ∀ x ∈ k_X6_lose, ac_So M_X6_lose (fun _ _ _ => False) x.1 x.2 :=
  ac_cons (so_aload_n dX6_lose_0 rfl rfl) <|
  ac_cons (so_iload_n dX6_lose_1 rfl rfl) <|
  ac_cons (so_iconst dX6_lose_2 (by decide +kernel) rfl) <|
  ac_cons (so_callV (N := M_X6_known) (ci := 9) C_X6_known rfl ⟨wd_704, wd_25, dy_X6_known, ⟨by decide, by decide⟩, tb_X6_lose⟩ rfl dX6_lose_3 wd_701 wd_703 wd_10 rfl) <|
  ac_cons (so_if_ne dX6_lose_6 (by decide) rfl) <|
  ac_cons (so_iconst dX6_lose_9 (by decide +kernel) rfl) <|
  ac_cons (so_ireturn rfl dX6_lose_10) <|
  ac_cons (so_aload_n dX6_lose_11 rfl rfl) <|
  ac_cons (so_get (ci := 9) (f := 0) rfl in_X6 (by decide) dX6_lose_12 wd_631 rfl) <|
  ac_cons (so_iload_n dX6_lose_15 rfl rfl) <|
  ac_cons (so_iald dX6_lose_16 rfl) <|
  ac_cons (so_istore_n dX6_lose_17 rfl rfl) <|
  ac_cons (so_aload_n dX6_lose_18 rfl rfl) <|
  ac_cons (so_iload_n dX6_lose_19 rfl rfl) <|
  ac_cons (so_if_lt dX6_lose_20 (by decide) rfl) <|
  ac_cons (so_iconst dX6_lose_23 (by decide +kernel) rfl) <|
  ac_cons (so_goto dX6_lose_24 (by decide)) <|
  ac_cons (so_iconst dX6_lose_27 (by decide +kernel) rfl) <|
  ac_cons (so_iconst dX6_lose_28 (by decide +kernel) rfl) <|
  ac_cons (so_callV (N := M_X6_good) (ci := 9) C_X6_good rfl ⟨wd_683, wd_25, dy_X6_good, ⟨by decide, by decide⟩, tb_X6_lose⟩ rfl dX6_lose_29 wd_680 wd_682 wd_8 rfl) <|
  ac_cons (so_if_eq dX6_lose_32 (by decide) rfl) <|
  ac_cons (so_aload_n dX6_lose_35 rfl rfl) <|
  ac_cons (so_aload_n dX6_lose_36 rfl rfl) <|
  ac_cons (so_get (ci := 9) (f := 1) rfl in_X6 (by decide) dX6_lose_37 wd_632 rfl) <|
  ac_cons (so_iload_n dX6_lose_40 rfl rfl) <|
  ac_cons (so_iald dX6_lose_41 rfl) <|
  ac_cons (so_bipush dX6_lose_42 (by decide +kernel) rfl) <|
  ac_cons (so_icmp_ge dX6_lose_44 (by decide) rfl) <|
  ac_cons (so_iconst dX6_lose_47 (by decide +kernel) rfl) <|
  ac_cons (so_goto dX6_lose_48 (by decide)) <|
  ac_cons (so_iconst dX6_lose_51 (by decide +kernel) rfl) <|
  ac_cons (so_iconst dX6_lose_52 (by decide +kernel) rfl) <|
  ac_cons (so_callV (N := M_X6_good) (ci := 9) C_X6_good rfl ⟨wd_683, wd_25, dy_X6_good, ⟨by decide, by decide⟩, tb_X6_lose⟩ rfl dX6_lose_53 wd_680 wd_682 wd_8 rfl) <|
  ac_cons (so_if_ne dX6_lose_56 (by decide) rfl) <|
  ac_cons (so_iconst dX6_lose_59 (by decide +kernel) rfl) <|
  ac_cons (so_ireturn rfl dX6_lose_60) <|
  ac_cons (so_aload_n dX6_lose_61 rfl rfl) <|
  ac_cons (so_get (ci := 9) (f := 1) rfl in_X6 (by decide) dX6_lose_62 wd_632 rfl) <|
  ac_cons (so_iload_n dX6_lose_65 rfl rfl) <|
  ac_cons (so_iald dX6_lose_66 rfl) <|
  ac_cons (so_bipush dX6_lose_67 (by decide +kernel) rfl) <|
  ac_cons (so_icmp_ne dX6_lose_69 (by decide) rfl) <|
  ac_cons (so_iconst dX6_lose_72 (by decide +kernel) rfl) <|
  ac_cons (so_goto dX6_lose_73 (by decide)) <|
  ac_cons (so_iconst dX6_lose_76 (by decide +kernel) rfl) <|
  ac_cons (so_istore dX6_lose_77 rfl) <|
  ac_cons (so_iload dX6_lose_79 rfl) <|
  ac_cons (so_if_eq dX6_lose_81 (by decide) rfl) <|
  ac_cons (so_aload_n dX6_lose_84 rfl rfl) <|
  ac_cons (so_iload_n dX6_lose_85 rfl rfl) <|
  ac_cons (so_iconst dX6_lose_86 (by decide +kernel) rfl) <|
  ac_cons (so_aload_n dX6_lose_87 rfl rfl) <|
  ac_cons (so_get (ci := 9) (f := 2) rfl in_X6 (by decide) dX6_lose_88 wd_633 rfl) <|
  ac_cons (so_iload_n dX6_lose_91 rfl rfl) <|
  ac_cons (so_iald dX6_lose_92 rfl) <|
  ac_cons (so_iconst dX6_lose_93 (by decide +kernel) rfl) <|
  ac_cons (so_isub dX6_lose_94 rfl) <|
  ac_cons (so_callS (N := M_X6_in) C_X6_in rfl ⟨wd_679, wd_25, dy_X6_in, ⟨by decide, by decide⟩, tb_X6_lose⟩ dX6_lose_95 wd_677 wd_678 rfl) <|
  ac_cons (so_iconst dX6_lose_98 (by decide +kernel) rfl) <|
  ac_cons (so_callV (N := M_X6_good) (ci := 9) C_X6_good rfl ⟨wd_683, wd_25, dy_X6_good, ⟨by decide, by decide⟩, tb_X6_lose⟩ rfl dX6_lose_99 wd_680 wd_682 wd_8 rfl) <|
  ac_cons (so_if_ne dX6_lose_102 (by decide) rfl) <|
  ac_cons (so_iconst dX6_lose_105 (by decide +kernel) rfl) <|
  ac_cons (so_ireturn rfl dX6_lose_106) <|
  ac_cons (so_bipush dX6_lose_107 (by decide +kernel) rfl) <|
  ac_cons (so_iload_n dX6_lose_109 rfl rfl) <|
  ac_cons (so_imul dX6_lose_110 rfl) <|
  ac_cons (so_iload dX6_lose_111 rfl) <|
  ac_cons (so_if_eq dX6_lose_113 (by decide) rfl) <|
  ac_cons (so_iload_n dX6_lose_116 rfl rfl) <|
  ac_cons (so_goto dX6_lose_117 (by decide)) <|
  ac_cons (so_iconst dX6_lose_120 (by decide +kernel) rfl) <|
  ac_cons (so_iadd dX6_lose_121 rfl) <|
  ac_cons (so_istore dX6_lose_122 rfl) <|
  ac_cons (so_aload_n dX6_lose_124 rfl rfl) <|
  ac_cons (so_aload_n dX6_lose_125 rfl rfl) <|
  ac_cons (so_get (ci := 9) (f := 7) rfl in_X6 (by decide) dX6_lose_126 wd_638 rfl) <|
  ac_cons (so_iload dX6_lose_129 rfl) <|
  ac_cons (so_zald dX6_lose_131 rfl) <|
  ac_cons (so_if_ne dX6_lose_132 (by decide) rfl) <|
  ac_cons (so_iconst dX6_lose_135 (by decide +kernel) rfl) <|
  ac_cons (so_goto dX6_lose_136 (by decide)) <|
  ac_cons (so_iconst dX6_lose_139 (by decide +kernel) rfl) <|
  ac_cons (so_iconst dX6_lose_140 (by decide +kernel) rfl) <|
  ac_cons (so_callV (N := M_X6_good) (ci := 9) C_X6_good rfl ⟨wd_683, wd_25, dy_X6_good, ⟨by decide, by decide⟩, tb_X6_lose⟩ rfl dX6_lose_141 wd_680 wd_682 wd_8 rfl) <|
  ac_cons (so_if_ne dX6_lose_144 (by decide) rfl) <|
  ac_cons (so_iconst dX6_lose_147 (by decide +kernel) rfl) <|
  ac_cons (so_ireturn rfl dX6_lose_148) <|
  ac_cons (so_aload_n dX6_lose_149 rfl rfl) <|
  ac_cons (so_get (ci := 9) (f := 7) rfl in_X6 (by decide) dX6_lose_150 wd_638 rfl) <|
  ac_cons (so_iload dX6_lose_153 rfl) <|
  ac_cons (so_iconst dX6_lose_155 (by decide +kernel) rfl) <|
  ac_cons (so_zast dX6_lose_156 rfl) <|
  ac_cons (so_iload dX6_lose_157 rfl) <|
  ac_cons (so_if_eq dX6_lose_159 (by decide) rfl) <|
  ac_cons (so_aload_n dX6_lose_162 rfl rfl) <|
  ac_cons (so_get (ci := 9) (f := 3) rfl in_X6 (by decide) dX6_lose_163 wd_634 rfl) <|
  ac_cons (so_iload_n dX6_lose_166 rfl rfl) <|
  ac_cons (so_iald dX6_lose_167 rfl) <|
  ac_cons (so_goto dX6_lose_168 (by decide)) <|
  ac_cons (so_aload_n dX6_lose_171 rfl rfl) <|
  ac_cons (so_get (ci := 9) (f := 2) rfl in_X6 (by decide) dX6_lose_172 wd_633 rfl) <|
  ac_cons (so_iload_n dX6_lose_175 rfl rfl) <|
  ac_cons (so_iald dX6_lose_176 rfl) <|
  ac_cons (so_ireturn rfl dX6_lose_177) <| ac_nil
theorem C_X6_lose : ac_Ct yX6_lose M_X6_lose T_X6_lose := ac_meth (by decide +kernel) rfl rfl rfl rfl s_X6_lose
-- X6_resize
abbrev rm_X6_resize : Room := { frames := 1, cells := 0, slots := 0, locals := 22 }
abbrev M_X6_resize : ac_D := (RX6, "resize", cX6_resize, 6, some FieldType.int, [], rm_X6_resize)
theorem tb_X6_resize : ac_tb RX6 [] := fun q h => (by cases h)
theorem dy_X6_resize : yX6_resize.cls ≠ "java/lang/invoke/MethodHandle" ∧ yX6_resize.cls ≠ "java/lang/invoke/VarHandle" ∧ (parseMethodDescriptor yX6_resize.desc).map (fun d => d.parameters.length) = some 2 := by decide +kernel
def k_X6_resize : List (Nat × ac_op) := [(0, op_aload 0 1),
  (1, op_iload 1 2),
  (2, op_push (.int 0) 3),
  (3, op_push (.int 7) 5),
  (5, op_callS rm_X6_resize [] T_X6_in rm_X6_in 3 5 8),
  (8, op_if (fun x => x = 0) 21 11),
  (11, op_iload 2 12),
  (12, op_push (.int 24) 14),
  (14, op_icmp (fun x y => y < x) 21 17),
  (17, op_push (.int 1) 18),
  (18, op_goto 22),
  (21, op_push (.int 0) 22),
  (22, op_push (.int 1) 23),
  (23, op_callV rm_X6_resize [] 9 T_X6_good rm_X6_good 2 23 26),
  (26, op_if (fun x => ¬ x = 0) 31 29),
  (29, op_push (.int 0) 30),
  (30, op_ireturn rm_X6_resize),
  (31, op_aload 0 32),
  (32, op_get 9 0 35),
  (35, op_iload 1 36),
  (36, op_iald 37),
  (37, op_istore 3 38),
  (38, op_aload 0 39),
  (39, op_iload 3 40),
  (40, op_if (fun x => x < 0) 47 43),
  (43, op_push (.int 1) 44),
  (44, op_goto 48),
  (47, op_push (.int 0) 48),
  (48, op_push (.int 2) 49),
  (49, op_callV rm_X6_resize [] 9 T_X6_good rm_X6_good 2 49 52),
  (52, op_if (fun x => x = 0) 121 55),
  (55, op_aload 0 56),
  (56, op_aload 0 57),
  (57, op_get 9 1 60),
  (60, op_iload 3 61),
  (61, op_iald 62),
  (62, op_push (.int 9) 64),
  (64, op_icmp (fun x y => y ≤ x) 71 67),
  (67, op_push (.int 1) 68),
  (68, op_goto 72),
  (71, op_push (.int 0) 72),
  (72, op_push (.int 3) 73),
  (73, op_callV rm_X6_resize [] 9 T_X6_good rm_X6_good 2 73 76),
  (76, op_if (fun x => x = 0) 121 79),
  (79, op_aload 0 80),
  (80, op_iload 2 81),
  (81, op_if (fun x => x < 0) 88 84),
  (84, op_push (.int 1) 85),
  (85, op_goto 89),
  (88, op_push (.int 0) 89),
  (89, op_push (.int 4) 90),
  (90, op_callV rm_X6_resize [] 9 T_X6_good rm_X6_good 2 90 93),
  (93, op_if (fun x => x = 0) 121 96),
  (96, op_aload 0 97),
  (97, op_aload 0 98),
  (98, op_get 9 7 101),
  (101, op_push (.int 6) 103),
  (103, op_iload 3 104),
  (104, op_ii (fun x y => x * y) 105),
  (105, op_zald 106),
  (106, op_if (fun x => ¬ x = 0) 113 109),
  (109, op_push (.int 1) 110),
  (110, op_goto 114),
  (113, op_push (.int 0) 114),
  (114, op_push (.int 2) 115),
  (115, op_callV rm_X6_resize [] 9 T_X6_good rm_X6_good 2 115 118),
  (118, op_if (fun x => ¬ x = 0) 123 121),
  (121, op_push (.int 0) 122),
  (122, op_ireturn rm_X6_resize),
  (123, op_aload 0 124),
  (124, op_get 9 2 127),
  (127, op_iload 3 128),
  (128, op_iald 129),
  (129, op_iload 2 130),
  (130, op_icmp (fun x y => y ≤ x) 142 133),
  (133, op_aload 0 134),
  (134, op_get 9 2 137),
  (137, op_iload 3 138),
  (138, op_iald 139),
  (139, op_goto 143),
  (142, op_iload 2 143),
  (143, op_istore 4 145),
  (145, op_iload 4 147),
  (147, op_istore 5 149),
  (149, op_iload 5 151),
  (151, op_push (.int 24) 153),
  (153, op_icmp (fun x y => y ≤ x) 192 156),
  (156, op_aload 0 157),
  (157, op_get 9 6 160),
  (160, op_push (.int 24) 162),
  (162, op_iload 3 163),
  (163, op_ii (fun x y => x * y) 164),
  (164, op_iload 5 166),
  (166, op_ii (fun x y => x + y) 167),
  (167, op_aload 0 168),
  (168, op_get 9 1 171),
  (171, op_iload 3 172),
  (172, op_iald 173),
  (173, op_push (.int 8) 175),
  (175, op_icmp (fun x y => ¬ x = y) 184 178),
  (178, op_push (.long (-1)) 181),
  (181, op_goto 185),
  (184, op_push (.long 0) 185),
  (185, op_last 186),
  (186, op_iinc 5 1 189),
  (189, op_goto 149),
  (192, op_aload 0 193),
  (193, op_get 9 2 196),
  (196, op_iload 3 197),
  (197, op_iload 2 198),
  (198, op_iast 199),
  (199, op_iload 4 201),
  (201, op_ireturn rm_X6_resize)]
def T_X6_resize : ac_T := ac_vc k_X6_resize 6
set_option maxRecDepth 100000 in
set_option maxHeartbeats 4000000 in
theorem s_X6_resize : ∀ x ∈ k_X6_resize, ac_So M_X6_resize (fun _ _ _ => False) x.1 x.2 :=
  ac_cons (so_aload_n dX6_resize_0 rfl rfl) <|
  ac_cons (so_iload_n dX6_resize_1 rfl rfl) <|
  ac_cons (so_iconst dX6_resize_2 (by decide +kernel) rfl) <|
  ac_cons (so_bipush dX6_resize_3 (by decide +kernel) rfl) <|
  ac_cons (so_callS (N := M_X6_in) C_X6_in rfl ⟨wd_679, wd_25, dy_X6_in, ⟨by decide, by decide⟩, tb_X6_resize⟩ dX6_resize_5 wd_677 wd_678 rfl) <|
  ac_cons (so_if_eq dX6_resize_8 (by decide) rfl) <|
  ac_cons (so_iload_n dX6_resize_11 rfl rfl) <|
  ac_cons (so_bipush dX6_resize_12 (by decide +kernel) rfl) <|
  ac_cons (so_icmp_gt dX6_resize_14 (by decide) rfl) <|
  ac_cons (so_iconst dX6_resize_17 (by decide +kernel) rfl) <|
  ac_cons (so_goto dX6_resize_18 (by decide)) <|
  ac_cons (so_iconst dX6_resize_21 (by decide +kernel) rfl) <|
  ac_cons (so_iconst dX6_resize_22 (by decide +kernel) rfl) <|
  ac_cons (so_callV (N := M_X6_good) (ci := 9) C_X6_good rfl ⟨wd_683, wd_25, dy_X6_good, ⟨by decide, by decide⟩, tb_X6_resize⟩ rfl dX6_resize_23 wd_680 wd_682 wd_8 rfl) <|
  ac_cons (so_if_ne dX6_resize_26 (by decide) rfl) <|
  ac_cons (so_iconst dX6_resize_29 (by decide +kernel) rfl) <|
  ac_cons (so_ireturn rfl dX6_resize_30) <|
  ac_cons (so_aload_n dX6_resize_31 rfl rfl) <|
  ac_cons (so_get (ci := 9) (f := 0) rfl in_X6 (by decide) dX6_resize_32 wd_631 rfl) <|
  ac_cons (so_iload_n dX6_resize_35 rfl rfl) <|
  ac_cons (so_iald dX6_resize_36 rfl) <|
  ac_cons (so_istore_n dX6_resize_37 rfl rfl) <|
  ac_cons (so_aload_n dX6_resize_38 rfl rfl) <|
  ac_cons (so_iload_n dX6_resize_39 rfl rfl) <|
  ac_cons (so_if_lt dX6_resize_40 (by decide) rfl) <|
  ac_cons (so_iconst dX6_resize_43 (by decide +kernel) rfl) <|
  ac_cons (so_goto dX6_resize_44 (by decide)) <|
  ac_cons (so_iconst dX6_resize_47 (by decide +kernel) rfl) <|
  ac_cons (so_iconst dX6_resize_48 (by decide +kernel) rfl) <|
  ac_cons (so_callV (N := M_X6_good) (ci := 9) C_X6_good rfl ⟨wd_683, wd_25, dy_X6_good, ⟨by decide, by decide⟩, tb_X6_resize⟩ rfl dX6_resize_49 wd_680 wd_682 wd_8 rfl) <|
  ac_cons (so_if_eq dX6_resize_52 (by decide) rfl) <|
  ac_cons (so_aload_n dX6_resize_55 rfl rfl) <|
  ac_cons (so_aload_n dX6_resize_56 rfl rfl) <|
  ac_cons (so_get (ci := 9) (f := 1) rfl in_X6 (by decide) dX6_resize_57 wd_632 rfl) <|
  ac_cons (so_iload_n dX6_resize_60 rfl rfl) <|
  ac_cons (so_iald dX6_resize_61 rfl) <|
  ac_cons (so_bipush dX6_resize_62 (by decide +kernel) rfl) <|
  ac_cons (so_icmp_ge dX6_resize_64 (by decide) rfl) <|
  ac_cons (so_iconst dX6_resize_67 (by decide +kernel) rfl) <|
  ac_cons (so_goto dX6_resize_68 (by decide)) <|
  ac_cons (so_iconst dX6_resize_71 (by decide +kernel) rfl) <|
  ac_cons (so_iconst dX6_resize_72 (by decide +kernel) rfl) <|
  ac_cons (so_callV (N := M_X6_good) (ci := 9) C_X6_good rfl ⟨wd_683, wd_25, dy_X6_good, ⟨by decide, by decide⟩, tb_X6_resize⟩ rfl dX6_resize_73 wd_680 wd_682 wd_8 rfl) <|
  ac_cons (so_if_eq dX6_resize_76 (by decide) rfl) <|
  ac_cons (so_aload_n dX6_resize_79 rfl rfl) <|
  ac_cons (so_iload_n dX6_resize_80 rfl rfl) <|
  ac_cons (so_if_lt dX6_resize_81 (by decide) rfl) <|
  ac_cons (so_iconst dX6_resize_84 (by decide +kernel) rfl) <|
  ac_cons (so_goto dX6_resize_85 (by decide)) <|
  ac_cons (so_iconst dX6_resize_88 (by decide +kernel) rfl) <|
  ac_cons (so_iconst dX6_resize_89 (by decide +kernel) rfl) <|
  ac_cons (so_callV (N := M_X6_good) (ci := 9) C_X6_good rfl ⟨wd_683, wd_25, dy_X6_good, ⟨by decide, by decide⟩, tb_X6_resize⟩ rfl dX6_resize_90 wd_680 wd_682 wd_8 rfl) <|
  ac_cons (so_if_eq dX6_resize_93 (by decide) rfl) <|
  ac_cons (so_aload_n dX6_resize_96 rfl rfl) <|
  ac_cons (so_aload_n dX6_resize_97 rfl rfl) <|
  ac_cons (so_get (ci := 9) (f := 7) rfl in_X6 (by decide) dX6_resize_98 wd_638 rfl) <|
  ac_cons (so_bipush dX6_resize_101 (by decide +kernel) rfl) <|
  ac_cons (so_iload_n dX6_resize_103 rfl rfl) <|
  ac_cons (so_imul dX6_resize_104 rfl) <|
  ac_cons (so_zald dX6_resize_105 rfl) <|
  ac_cons (so_if_ne dX6_resize_106 (by decide) rfl) <|
  ac_cons (so_iconst dX6_resize_109 (by decide +kernel) rfl) <|
  ac_cons (so_goto dX6_resize_110 (by decide)) <|
  ac_cons (so_iconst dX6_resize_113 (by decide +kernel) rfl) <|
  ac_cons (so_iconst dX6_resize_114 (by decide +kernel) rfl) <|
  ac_cons (so_callV (N := M_X6_good) (ci := 9) C_X6_good rfl ⟨wd_683, wd_25, dy_X6_good, ⟨by decide, by decide⟩, tb_X6_resize⟩ rfl dX6_resize_115 wd_680 wd_682 wd_8 rfl) <|
  ac_cons (so_if_ne dX6_resize_118 (by decide) rfl) <|
  ac_cons (so_iconst dX6_resize_121 (by decide +kernel) rfl) <|
  ac_cons (so_ireturn rfl dX6_resize_122) <|
  ac_cons (so_aload_n dX6_resize_123 rfl rfl) <|
  ac_cons (so_get (ci := 9) (f := 2) rfl in_X6 (by decide) dX6_resize_124 wd_633 rfl) <|
  ac_cons (so_iload_n dX6_resize_127 rfl rfl) <|
  ac_cons (so_iald dX6_resize_128 rfl) <|
  ac_cons (so_iload_n dX6_resize_129 rfl rfl) <|
  ac_cons (so_icmp_ge dX6_resize_130 (by decide) rfl) <|
  ac_cons (so_aload_n dX6_resize_133 rfl rfl) <|
  ac_cons (so_get (ci := 9) (f := 2) rfl in_X6 (by decide) dX6_resize_134 wd_633 rfl) <|
  ac_cons (so_iload_n dX6_resize_137 rfl rfl) <|
  ac_cons (so_iald dX6_resize_138 rfl) <|
  ac_cons (so_goto dX6_resize_139 (by decide)) <|
  ac_cons (so_iload_n dX6_resize_142 rfl rfl) <|
  ac_cons (so_istore dX6_resize_143 rfl) <|
  ac_cons (so_iload dX6_resize_145 rfl) <|
  ac_cons (so_istore dX6_resize_147 rfl) <|
  ac_cons (so_iload dX6_resize_149 rfl) <|
  ac_cons (so_bipush dX6_resize_151 (by decide +kernel) rfl) <|
  ac_cons (so_icmp_ge dX6_resize_153 (by decide) rfl) <|
  ac_cons (so_aload_n dX6_resize_156 rfl rfl) <|
  ac_cons (so_get (ci := 9) (f := 6) rfl in_X6 (by decide) dX6_resize_157 wd_637 rfl) <|
  ac_cons (so_bipush dX6_resize_160 (by decide +kernel) rfl) <|
  ac_cons (so_iload_n dX6_resize_162 rfl rfl) <|
  ac_cons (so_imul dX6_resize_163 rfl) <|
  ac_cons (so_iload dX6_resize_164 rfl) <|
  ac_cons (so_iadd dX6_resize_166 rfl) <|
  ac_cons (so_aload_n dX6_resize_167 rfl rfl) <|
  ac_cons (so_get (ci := 9) (f := 1) rfl in_X6 (by decide) dX6_resize_168 wd_632 rfl) <|
  ac_cons (so_iload_n dX6_resize_171 rfl rfl) <|
  ac_cons (so_iald dX6_resize_172 rfl) <|
  ac_cons (so_bipush dX6_resize_173 (by decide +kernel) rfl) <|
  ac_cons (so_icmp_ne dX6_resize_175 (by decide) rfl) <|
  ac_cons (so_ldc2 dX6_resize_178 wd_688 rfl) <|
  ac_cons (so_goto dX6_resize_181 (by decide)) <|
  ac_cons (so_lconst dX6_resize_184 (by decide +kernel) rfl) <|
  ac_cons (so_last dX6_resize_185 rfl) <|
  ac_cons (so_iinc dX6_resize_186 (by decide +kernel) rfl) <|
  ac_cons (so_goto dX6_resize_189 (by decide)) <|
  ac_cons (so_aload_n dX6_resize_192 rfl rfl) <|
  ac_cons (so_get (ci := 9) (f := 2) rfl in_X6 (by decide) dX6_resize_193 wd_633 rfl) <|
  ac_cons (so_iload_n dX6_resize_196 rfl rfl) <|
  ac_cons (so_iload_n dX6_resize_197 rfl rfl) <|
  ac_cons (so_iast dX6_resize_198 rfl) <|
  ac_cons (so_iload dX6_resize_199 rfl) <|
  ac_cons (so_ireturn rfl dX6_resize_201) <| ac_nil
theorem C_X6_resize : ac_Ct yX6_resize M_X6_resize T_X6_resize := ac_meth (by decide +kernel) rfl rfl rfl rfl s_X6_resize
-- X6_size
abbrev rm_X6_size : Room := { frames := 2, cells := 0, slots := 0, locals := 44 }
abbrev M_X6_size : ac_D := (RX6, "size", cX6_size, 5, some FieldType.int, [], rm_X6_size)
theorem tb_X6_size : ac_tb RX6 [] := fun q h => (by cases h)
theorem dy_X6_size : yX6_size.cls ≠ "java/lang/invoke/MethodHandle" ∧ yX6_size.cls ≠ "java/lang/invoke/VarHandle" ∧ (parseMethodDescriptor yX6_size.desc).map (fun d => d.parameters.length) = some 1 := by decide +kernel
def k_X6_size : List (Nat × ac_op) := [(0, op_aload 0 1),
  (1, op_iload 1 2),
  (2, op_push (.int 0) 3),
  (3, op_callV rm_X6_size [] 9 T_X6_known rm_X6_known 2 3 6),
  (6, op_if (fun x => ¬ x = 0) 11 9),
  (9, op_push (.int 0) 10),
  (10, op_ireturn rm_X6_size),
  (11, op_aload 0 12),
  (12, op_get 9 0 15),
  (15, op_iload 1 16),
  (16, op_iald 17),
  (17, op_istore 2 18),
  (18, op_aload 0 19),
  (19, op_iload 2 20),
  (20, op_if (fun x => x < 0) 27 23),
  (23, op_push (.int 1) 24),
  (24, op_goto 28),
  (27, op_push (.int 0) 28),
  (28, op_push (.int 2) 29),
  (29, op_callV rm_X6_size [] 9 T_X6_good rm_X6_good 2 29 32),
  (32, op_if (fun x => x = 0) 59 35),
  (35, op_aload 0 36),
  (36, op_aload 0 37),
  (37, op_get 9 1 40),
  (40, op_iload 2 41),
  (41, op_iald 42),
  (42, op_push (.int 10) 44),
  (44, op_icmp (fun x y => x = y) 51 47),
  (47, op_push (.int 1) 48),
  (48, op_goto 52),
  (51, op_push (.int 0) 52),
  (52, op_push (.int 3) 53),
  (53, op_callV rm_X6_size [] 9 T_X6_good rm_X6_good 2 53 56),
  (56, op_if (fun x => ¬ x = 0) 61 59),
  (59, op_push (.int 0) 60),
  (60, op_ireturn rm_X6_size),
  (61, op_push (.int 0) 62),
  (62, op_istore 3 63),
  (63, op_iload 2 64),
  (64, op_istore 4 66),
  (66, op_aload 0 67),
  (67, op_get 9 1 70),
  (70, op_iload 4 72),
  (72, op_iald 73),
  (73, op_push (.int 11) 75),
  (75, op_icmp (fun x y => ¬ x = y) 100 78),
  (78, op_iload 3 79),
  (79, op_aload 0 80),
  (80, op_get 9 5 83),
  (83, op_iload 4 85),
  (85, op_iald 86),
  (86, op_ii (fun x y => x + y) 87),
  (87, op_istore 3 88),
  (88, op_aload 0 89),
  (89, op_get 9 4 92),
  (92, op_iload 4 94),
  (94, op_iald 95),
  (95, op_istore 4 97),
  (97, op_goto 66),
  (100, op_aload 0 101),
  (101, op_aload 0 102),
  (102, op_get 9 1 105),
  (105, op_iload 4 107),
  (107, op_iald 108),
  (108, op_push (.int 9) 110),
  (110, op_icmp (fun x y => x = y) 126 113),
  (113, op_aload 0 114),
  (114, op_get 9 7 117),
  (117, op_push (.int 6) 119),
  (119, op_iload 4 121),
  (121, op_ii (fun x y => x * y) 122),
  (122, op_zald 123),
  (123, op_if (fun x => ¬ x = 0) 130 126),
  (126, op_push (.int 1) 127),
  (127, op_goto 131),
  (130, op_push (.int 0) 131),
  (131, op_push (.int 2) 132),
  (132, op_callV rm_X6_size [] 9 T_X6_good rm_X6_good 2 132 135),
  (135, op_if (fun x => ¬ x = 0) 140 138),
  (138, op_push (.int 0) 139),
  (139, op_ireturn rm_X6_size),
  (140, op_aload 0 141),
  (141, op_get 9 2 144),
  (144, op_iload 4 146),
  (146, op_iald 147),
  (147, op_iload 3 148),
  (148, op_ii (fun x y => x - y) 149),
  (149, op_ireturn rm_X6_size)]
def T_X6_size : ac_T := ac_vc k_X6_size 5
set_option maxRecDepth 100000 in
set_option maxHeartbeats 4000000 in
theorem s_X6_size : ∀ x ∈ k_X6_size, ac_So M_X6_size (fun _ _ _ => False) x.1 x.2 :=
  ac_cons (so_aload_n dX6_size_0 rfl rfl) <|
  ac_cons (so_iload_n dX6_size_1 rfl rfl) <|
  ac_cons (so_iconst dX6_size_2 (by decide +kernel) rfl) <|
  ac_cons (so_callV (N := M_X6_known) (ci := 9) C_X6_known rfl ⟨wd_704, wd_25, dy_X6_known, ⟨by decide, by decide⟩, tb_X6_size⟩ rfl dX6_size_3 wd_701 wd_703 wd_10 rfl) <|
  ac_cons (so_if_ne dX6_size_6 (by decide) rfl) <|
  ac_cons (so_iconst dX6_size_9 (by decide +kernel) rfl) <|
  ac_cons (so_ireturn rfl dX6_size_10) <|
  ac_cons (so_aload_n dX6_size_11 rfl rfl) <|
  ac_cons (so_get (ci := 9) (f := 0) rfl in_X6 (by decide) dX6_size_12 wd_631 rfl) <|
  ac_cons (so_iload_n dX6_size_15 rfl rfl) <|
  ac_cons (so_iald dX6_size_16 rfl) <|
  ac_cons (so_istore_n dX6_size_17 rfl rfl) <|
  ac_cons (so_aload_n dX6_size_18 rfl rfl) <|
  ac_cons (so_iload_n dX6_size_19 rfl rfl) <|
  ac_cons (so_if_lt dX6_size_20 (by decide) rfl) <|
  ac_cons (so_iconst dX6_size_23 (by decide +kernel) rfl) <|
  ac_cons (so_goto dX6_size_24 (by decide)) <|
  ac_cons (so_iconst dX6_size_27 (by decide +kernel) rfl) <|
  ac_cons (so_iconst dX6_size_28 (by decide +kernel) rfl) <|
  ac_cons (so_callV (N := M_X6_good) (ci := 9) C_X6_good rfl ⟨wd_683, wd_25, dy_X6_good, ⟨by decide, by decide⟩, tb_X6_size⟩ rfl dX6_size_29 wd_680 wd_682 wd_8 rfl) <|
  ac_cons (so_if_eq dX6_size_32 (by decide) rfl) <|
  ac_cons (so_aload_n dX6_size_35 rfl rfl) <|
  ac_cons (so_aload_n dX6_size_36 rfl rfl) <|
  ac_cons (so_get (ci := 9) (f := 1) rfl in_X6 (by decide) dX6_size_37 wd_632 rfl) <|
  ac_cons (so_iload_n dX6_size_40 rfl rfl) <|
  ac_cons (so_iald dX6_size_41 rfl) <|
  ac_cons (so_bipush dX6_size_42 (by decide +kernel) rfl) <|
  ac_cons (so_icmp_eq dX6_size_44 (by decide) rfl) <|
  ac_cons (so_iconst dX6_size_47 (by decide +kernel) rfl) <|
  ac_cons (so_goto dX6_size_48 (by decide)) <|
  ac_cons (so_iconst dX6_size_51 (by decide +kernel) rfl) <|
  ac_cons (so_iconst dX6_size_52 (by decide +kernel) rfl) <|
  ac_cons (so_callV (N := M_X6_good) (ci := 9) C_X6_good rfl ⟨wd_683, wd_25, dy_X6_good, ⟨by decide, by decide⟩, tb_X6_size⟩ rfl dX6_size_53 wd_680 wd_682 wd_8 rfl) <|
  ac_cons (so_if_ne dX6_size_56 (by decide) rfl) <|
  ac_cons (so_iconst dX6_size_59 (by decide +kernel) rfl) <|
  ac_cons (so_ireturn rfl dX6_size_60) <|
  ac_cons (so_iconst dX6_size_61 (by decide +kernel) rfl) <|
  ac_cons (so_istore_n dX6_size_62 rfl rfl) <|
  ac_cons (so_iload_n dX6_size_63 rfl rfl) <|
  ac_cons (so_istore dX6_size_64 rfl) <|
  ac_cons (so_aload_n dX6_size_66 rfl rfl) <|
  ac_cons (so_get (ci := 9) (f := 1) rfl in_X6 (by decide) dX6_size_67 wd_632 rfl) <|
  ac_cons (so_iload dX6_size_70 rfl) <|
  ac_cons (so_iald dX6_size_72 rfl) <|
  ac_cons (so_bipush dX6_size_73 (by decide +kernel) rfl) <|
  ac_cons (so_icmp_ne dX6_size_75 (by decide) rfl) <|
  ac_cons (so_iload_n dX6_size_78 rfl rfl) <|
  ac_cons (so_aload_n dX6_size_79 rfl rfl) <|
  ac_cons (so_get (ci := 9) (f := 5) rfl in_X6 (by decide) dX6_size_80 wd_636 rfl) <|
  ac_cons (so_iload dX6_size_83 rfl) <|
  ac_cons (so_iald dX6_size_85 rfl) <|
  ac_cons (so_iadd dX6_size_86 rfl) <|
  ac_cons (so_istore_n dX6_size_87 rfl rfl) <|
  ac_cons (so_aload_n dX6_size_88 rfl rfl) <|
  ac_cons (so_get (ci := 9) (f := 4) rfl in_X6 (by decide) dX6_size_89 wd_635 rfl) <|
  ac_cons (so_iload dX6_size_92 rfl) <|
  ac_cons (so_iald dX6_size_94 rfl) <|
  ac_cons (so_istore dX6_size_95 rfl) <|
  ac_cons (so_goto dX6_size_97 (by decide)) <|
  ac_cons (so_aload_n dX6_size_100 rfl rfl) <|
  ac_cons (so_aload_n dX6_size_101 rfl rfl) <|
  ac_cons (so_get (ci := 9) (f := 1) rfl in_X6 (by decide) dX6_size_102 wd_632 rfl) <|
  ac_cons (so_iload dX6_size_105 rfl) <|
  ac_cons (so_iald dX6_size_107 rfl) <|
  ac_cons (so_bipush dX6_size_108 (by decide +kernel) rfl) <|
  ac_cons (so_icmp_eq dX6_size_110 (by decide) rfl) <|
  ac_cons (so_aload_n dX6_size_113 rfl rfl) <|
  ac_cons (so_get (ci := 9) (f := 7) rfl in_X6 (by decide) dX6_size_114 wd_638 rfl) <|
  ac_cons (so_bipush dX6_size_117 (by decide +kernel) rfl) <|
  ac_cons (so_iload dX6_size_119 rfl) <|
  ac_cons (so_imul dX6_size_121 rfl) <|
  ac_cons (so_zald dX6_size_122 rfl) <|
  ac_cons (so_if_ne dX6_size_123 (by decide) rfl) <|
  ac_cons (so_iconst dX6_size_126 (by decide +kernel) rfl) <|
  ac_cons (so_goto dX6_size_127 (by decide)) <|
  ac_cons (so_iconst dX6_size_130 (by decide +kernel) rfl) <|
  ac_cons (so_iconst dX6_size_131 (by decide +kernel) rfl) <|
  ac_cons (so_callV (N := M_X6_good) (ci := 9) C_X6_good rfl ⟨wd_683, wd_25, dy_X6_good, ⟨by decide, by decide⟩, tb_X6_size⟩ rfl dX6_size_132 wd_680 wd_682 wd_8 rfl) <|
  ac_cons (so_if_ne dX6_size_135 (by decide) rfl) <|
  ac_cons (so_iconst dX6_size_138 (by decide +kernel) rfl) <|
  ac_cons (so_ireturn rfl dX6_size_139) <|
  ac_cons (so_aload_n dX6_size_140 rfl rfl) <|
  ac_cons (so_get (ci := 9) (f := 2) rfl in_X6 (by decide) dX6_size_141 wd_633 rfl) <|
  ac_cons (so_iload dX6_size_144 rfl) <|
  ac_cons (so_iald dX6_size_146 rfl) <|
  ac_cons (so_iload_n dX6_size_147 rfl rfl) <|
  ac_cons (so_isub dX6_size_148 rfl) <|
  ac_cons (so_ireturn rfl dX6_size_149) <| ac_nil
theorem C_X6_size : ac_Ct yX6_size M_X6_size T_X6_size := ac_meth (by decide +kernel) rfl rfl rfl rfl s_X6_size
-- X6_find
abbrev rm_X6_find : Room := { frames := 1, cells := 0, slots := 0, locals := 22 }
abbrev M_X6_find : ac_D := (RX6, "find", cX6_find, 4, some FieldType.int, [], rm_X6_find)
theorem tb_X6_find : ac_tb RX6 [] := fun q h => (by cases h)
theorem dy_X6_find : yX6_find.cls ≠ "java/lang/invoke/MethodHandle" ∧ yX6_find.cls ≠ "java/lang/invoke/VarHandle" ∧ (parseMethodDescriptor yX6_find.desc).map (fun d => d.parameters.length) = some 2 := by decide +kernel
def k_X6_find : List (Nat × ac_op) := [(0, op_iload 1 1),
  (1, op_istore 3 2),
  (2, op_aload 0 3),
  (3, op_iload 2 4),
  (4, op_put 9 10 7),
  (7, op_aload 0 8),
  (8, op_get 9 1 11),
  (11, op_iload 3 12),
  (12, op_iald 13),
  (13, op_push (.int 11) 15),
  (15, op_icmp (fun x y => ¬ x = y) 43 18),
  (18, op_aload 0 19),
  (19, op_dup 20),
  (20, op_get 9 10 23),
  (23, op_aload 0 24),
  (24, op_get 9 5 27),
  (27, op_iload 3 28),
  (28, op_iald 29),
  (29, op_ii (fun x y => x + y) 30),
  (30, op_put 9 10 33),
  (33, op_aload 0 34),
  (34, op_get 9 4 37),
  (37, op_iload 3 38),
  (38, op_iald 39),
  (39, op_istore 3 40),
  (40, op_goto 7),
  (43, op_aload 0 44),
  (44, op_iload 3 45),
  (45, op_put 9 9 48),
  (48, op_aload 0 49),
  (49, op_get 9 7 52),
  (52, op_push (.int 6) 54),
  (54, op_iload 3 55),
  (55, op_ii (fun x y => x * y) 56),
  (56, op_zald 57),
  (57, op_if (fun x => x = 0) 64 60),
  (60, op_push (.int 2) 61),
  (61, op_goto 88),
  (64, op_aload 0 65),
  (65, op_get 9 10 68),
  (68, op_push (.int 0) 69),
  (69, op_aload 0 70),
  (70, op_get 9 2 73),
  (73, op_iload 3 74),
  (74, op_iald 75),
  (75, op_push (.int 1) 76),
  (76, op_ii (fun x y => x - y) 77),
  (77, op_callS rm_X6_find [] T_X6_in rm_X6_in 3 77 80),
  (80, op_if (fun x => x = 0) 87 83),
  (83, op_push (.int 0) 84),
  (84, op_goto 88),
  (87, op_push (.int 4) 88),
  (88, op_ireturn rm_X6_find)]
def T_X6_find : ac_T := ac_vc k_X6_find 4
set_option maxRecDepth 100000 in
set_option maxHeartbeats 4000000 in
theorem s_X6_find : ∀ x ∈ k_X6_find, ac_So M_X6_find (fun _ _ _ => False) x.1 x.2 :=
  ac_cons (so_iload_n dX6_find_0 rfl rfl) <|
  ac_cons (so_istore_n dX6_find_1 rfl rfl) <|
  ac_cons (so_aload_n dX6_find_2 rfl rfl) <|
  ac_cons (so_iload_n dX6_find_3 rfl rfl) <|
  ac_cons (so_put (ci := 9) (f := 10) rfl in_X6 tyX6_ok nmX6 (by decide) rfl rfl dX6_find_4 wd_641 rfl) <|
  ac_cons (so_aload_n dX6_find_7 rfl rfl) <|
  ac_cons (so_get (ci := 9) (f := 1) rfl in_X6 (by decide) dX6_find_8 wd_632 rfl) <|
  ac_cons (so_iload_n dX6_find_11 rfl rfl) <|
  ac_cons (so_iald dX6_find_12 rfl) <|
  ac_cons (so_bipush dX6_find_13 (by decide +kernel) rfl) <|
  ac_cons (so_icmp_ne dX6_find_15 (by decide) rfl) <|
  ac_cons (so_aload_n dX6_find_18 rfl rfl) <|
  ac_cons (so_dup dX6_find_19 rfl) <|
  ac_cons (so_get (ci := 9) (f := 10) rfl in_X6 (by decide) dX6_find_20 wd_641 rfl) <|
  ac_cons (so_aload_n dX6_find_23 rfl rfl) <|
  ac_cons (so_get (ci := 9) (f := 5) rfl in_X6 (by decide) dX6_find_24 wd_636 rfl) <|
  ac_cons (so_iload_n dX6_find_27 rfl rfl) <|
  ac_cons (so_iald dX6_find_28 rfl) <|
  ac_cons (so_iadd dX6_find_29 rfl) <|
  ac_cons (so_put (ci := 9) (f := 10) rfl in_X6 tyX6_ok nmX6 (by decide) rfl rfl dX6_find_30 wd_641 rfl) <|
  ac_cons (so_aload_n dX6_find_33 rfl rfl) <|
  ac_cons (so_get (ci := 9) (f := 4) rfl in_X6 (by decide) dX6_find_34 wd_635 rfl) <|
  ac_cons (so_iload_n dX6_find_37 rfl rfl) <|
  ac_cons (so_iald dX6_find_38 rfl) <|
  ac_cons (so_istore_n dX6_find_39 rfl rfl) <|
  ac_cons (so_goto dX6_find_40 (by decide)) <|
  ac_cons (so_aload_n dX6_find_43 rfl rfl) <|
  ac_cons (so_iload_n dX6_find_44 rfl rfl) <|
  ac_cons (so_put (ci := 9) (f := 9) rfl in_X6 tyX6_ok nmX6 (by decide) rfl rfl dX6_find_45 wd_640 rfl) <|
  ac_cons (so_aload_n dX6_find_48 rfl rfl) <|
  ac_cons (so_get (ci := 9) (f := 7) rfl in_X6 (by decide) dX6_find_49 wd_638 rfl) <|
  ac_cons (so_bipush dX6_find_52 (by decide +kernel) rfl) <|
  ac_cons (so_iload_n dX6_find_54 rfl rfl) <|
  ac_cons (so_imul dX6_find_55 rfl) <|
  ac_cons (so_zald dX6_find_56 rfl) <|
  ac_cons (so_if_eq dX6_find_57 (by decide) rfl) <|
  ac_cons (so_iconst dX6_find_60 (by decide +kernel) rfl) <|
  ac_cons (so_goto dX6_find_61 (by decide)) <|
  ac_cons (so_aload_n dX6_find_64 rfl rfl) <|
  ac_cons (so_get (ci := 9) (f := 10) rfl in_X6 (by decide) dX6_find_65 wd_641 rfl) <|
  ac_cons (so_iconst dX6_find_68 (by decide +kernel) rfl) <|
  ac_cons (so_aload_n dX6_find_69 rfl rfl) <|
  ac_cons (so_get (ci := 9) (f := 2) rfl in_X6 (by decide) dX6_find_70 wd_633 rfl) <|
  ac_cons (so_iload_n dX6_find_73 rfl rfl) <|
  ac_cons (so_iald dX6_find_74 rfl) <|
  ac_cons (so_iconst dX6_find_75 (by decide +kernel) rfl) <|
  ac_cons (so_isub dX6_find_76 rfl) <|
  ac_cons (so_callS (N := M_X6_in) C_X6_in rfl ⟨wd_679, wd_25, dy_X6_in, ⟨by decide, by decide⟩, tb_X6_find⟩ dX6_find_77 wd_677 wd_678 rfl) <|
  ac_cons (so_if_eq dX6_find_80 (by decide) rfl) <|
  ac_cons (so_iconst dX6_find_83 (by decide +kernel) rfl) <|
  ac_cons (so_goto dX6_find_84 (by decide)) <|
  ac_cons (so_iconst dX6_find_87 (by decide +kernel) rfl) <|
  ac_cons (so_ireturn rfl dX6_find_88) <| ac_nil
theorem C_X6_find : ac_Ct yX6_find M_X6_find T_X6_find := ac_meth (by decide +kernel) rfl rfl rfl rfl s_X6_find
-- X6_fit
abbrev rm_X6_fit : Room := { frames := 0, cells := 0, slots := 0, locals := 0 }
abbrev M_X6_fit : ac_D := (RX6, "fit", cX6_fit, 3, some FieldType.long, [], rm_X6_fit)
theorem tb_X6_fit : ac_tb RX6 [] := fun q h => (by cases h)
theorem dy_X6_fit : yX6_fit.cls ≠ "java/lang/invoke/MethodHandle" ∧ yX6_fit.cls ≠ "java/lang/invoke/VarHandle" ∧ (parseMethodDescriptor yX6_fit.desc).map (fun d => d.parameters.length) = some 2 := by decide +kernel
def k_X6_fit : List (Nat × ac_op) := [(0, op_iload 0 1),
  (1, op_if (fun x => ¬ x = 0) 16 4),
  (4, op_lload 1 5),
  (5, op_push (.long 0) 6),
  (6, op_lcmp 7),
  (7, op_if (fun x => ¬ x = 0) 14 10),
  (10, op_push (.long 0) 11),
  (11, op_goto 15),
  (14, op_push (.long 1) 15),
  (15, op_lreturn rm_X6_fit),
  (16, op_iload 0 17),
  (17, op_push (.int 1) 18),
  (18, op_icmp (fun x y => ¬ x = y) 26 21),
  (21, op_lload 1 22),
  (22, op_l (fun x => .int x.toInt32) 23),
  (23, op_i (fun x => .int x.toInt8.toInt32) 24),
  (24, op_i (fun x => .long x.toInt64) 25),
  (25, op_lreturn rm_X6_fit),
  (26, op_iload 0 27),
  (27, op_push (.int 2) 28),
  (28, op_icmp (fun x y => ¬ x = y) 36 31),
  (31, op_lload 1 32),
  (32, op_l (fun x => .int x.toInt32) 33),
  (33, op_i (fun x => .int x.toInt16.toInt32) 34),
  (34, op_i (fun x => .long x.toInt64) 35),
  (35, op_lreturn rm_X6_fit),
  (36, op_iload 0 37),
  (37, op_push (.int 3) 38),
  (38, op_icmp (fun x y => ¬ x = y) 47 41),
  (41, op_lload 1 42),
  (42, op_push (.long 65535) 45),
  (45, op_ll (fun x y => x &&& y) 46),
  (46, op_lreturn rm_X6_fit),
  (47, op_iload 0 48),
  (48, op_push (.int 4) 49),
  (49, op_icmp (fun x y => ¬ x = y) 56 52),
  (52, op_lload 1 53),
  (53, op_l (fun x => .int x.toInt32) 54),
  (54, op_i (fun x => .long x.toInt64) 55),
  (55, op_lreturn rm_X6_fit),
  (56, op_iload 0 57),
  (57, op_push (.int 6) 59),
  (59, op_icmp (fun x y => ¬ x = y) 66 62),
  (62, op_lload 1 63),
  (63, op_l (fun x => .float (FP.l2f x)) 64),
  (64, op_f2l 65),
  (65, op_lreturn rm_X6_fit),
  (66, op_iload 0 67),
  (67, op_push (.int 7) 69),
  (69, op_icmp (fun x y => ¬ x = y) 76 72),
  (72, op_lload 1 73),
  (73, op_l (fun x => .double (FP.l2d x)) 74),
  (74, op_d2l 75),
  (75, op_lreturn rm_X6_fit),
  (76, op_lload 1 77),
  (77, op_lreturn rm_X6_fit)]
def T_X6_fit : ac_T := ac_vc k_X6_fit 3
set_option maxRecDepth 100000 in
set_option maxHeartbeats 4000000 in
theorem s_X6_fit : ∀ x ∈ k_X6_fit, ac_So M_X6_fit (fun _ _ _ => False) x.1 x.2 :=
  ac_cons (so_iload_n dX6_fit_0 rfl rfl) <|
  ac_cons (so_if_ne dX6_fit_1 (by decide) rfl) <|
  ac_cons (so_lload_n dX6_fit_4 rfl rfl) <|
  ac_cons (so_lconst dX6_fit_5 (by decide +kernel) rfl) <|
  ac_cons (so_lcmp dX6_fit_6 rfl) <|
  ac_cons (so_if_ne dX6_fit_7 (by decide) rfl) <|
  ac_cons (so_lconst dX6_fit_10 (by decide +kernel) rfl) <|
  ac_cons (so_goto dX6_fit_11 (by decide)) <|
  ac_cons (so_lconst dX6_fit_14 (by decide +kernel) rfl) <|
  ac_cons (so_lreturn rfl dX6_fit_15) <|
  ac_cons (so_iload_n dX6_fit_16 rfl rfl) <|
  ac_cons (so_iconst dX6_fit_17 (by decide +kernel) rfl) <|
  ac_cons (so_icmp_ne dX6_fit_18 (by decide) rfl) <|
  ac_cons (so_lload_n dX6_fit_21 rfl rfl) <|
  ac_cons (so_l2i dX6_fit_22 rfl) <|
  ac_cons (so_i2b dX6_fit_23 rfl) <|
  ac_cons (so_i2l dX6_fit_24 rfl) <|
  ac_cons (so_lreturn rfl dX6_fit_25) <|
  ac_cons (so_iload_n dX6_fit_26 rfl rfl) <|
  ac_cons (so_iconst dX6_fit_27 (by decide +kernel) rfl) <|
  ac_cons (so_icmp_ne dX6_fit_28 (by decide) rfl) <|
  ac_cons (so_lload_n dX6_fit_31 rfl rfl) <|
  ac_cons (so_l2i dX6_fit_32 rfl) <|
  ac_cons (so_i2s dX6_fit_33 rfl) <|
  ac_cons (so_i2l dX6_fit_34 rfl) <|
  ac_cons (so_lreturn rfl dX6_fit_35) <|
  ac_cons (so_iload_n dX6_fit_36 rfl rfl) <|
  ac_cons (so_iconst dX6_fit_37 (by decide +kernel) rfl) <|
  ac_cons (so_icmp_ne dX6_fit_38 (by decide) rfl) <|
  ac_cons (so_lload_n dX6_fit_41 rfl rfl) <|
  ac_cons (so_ldc2 dX6_fit_42 wd_760 rfl) <|
  ac_cons (so_land dX6_fit_45 rfl) <|
  ac_cons (so_lreturn rfl dX6_fit_46) <|
  ac_cons (so_iload_n dX6_fit_47 rfl rfl) <|
  ac_cons (so_iconst dX6_fit_48 (by decide +kernel) rfl) <|
  ac_cons (so_icmp_ne dX6_fit_49 (by decide) rfl) <|
  ac_cons (so_lload_n dX6_fit_52 rfl rfl) <|
  ac_cons (so_l2i dX6_fit_53 rfl) <|
  ac_cons (so_i2l dX6_fit_54 rfl) <|
  ac_cons (so_lreturn rfl dX6_fit_55) <|
  ac_cons (so_iload_n dX6_fit_56 rfl rfl) <|
  ac_cons (so_bipush dX6_fit_57 (by decide +kernel) rfl) <|
  ac_cons (so_icmp_ne dX6_fit_59 (by decide) rfl) <|
  ac_cons (so_lload_n dX6_fit_62 rfl rfl) <|
  ac_cons (so_l2f dX6_fit_63 rfl) <|
  ac_cons (so_f2l dX6_fit_64 rfl) <|
  ac_cons (so_lreturn rfl dX6_fit_65) <|
  ac_cons (so_iload_n dX6_fit_66 rfl rfl) <|
  ac_cons (so_bipush dX6_fit_67 (by decide +kernel) rfl) <|
  ac_cons (so_icmp_ne dX6_fit_69 (by decide) rfl) <|
  ac_cons (so_lload_n dX6_fit_72 rfl rfl) <|
  ac_cons (so_l2d dX6_fit_73 rfl) <|
  ac_cons (so_d2l dX6_fit_74 rfl) <|
  ac_cons (so_lreturn rfl dX6_fit_75) <|
  ac_cons (so_lload_n dX6_fit_76 rfl rfl) <|
  ac_cons (so_lreturn rfl dX6_fit_77) <| ac_nil
theorem C_X6_fit : ac_Ct yX6_fit M_X6_fit T_X6_fit := ac_meth (by decide +kernel) rfl rfl rfl rfl s_X6_fit
-- X6_here
abbrev rm_X6_here : Room := { frames := 0, cells := 0, slots := 0, locals := 0 }
abbrev M_X6_here : ac_D := (RX6, "here", cX6_here, 1, some FieldType.long, [], rm_X6_here)
theorem tb_X6_here : ac_tb RX6 [] := fun q h => (by cases h)
theorem dy_X6_here : yX6_here.cls ≠ "java/lang/invoke/MethodHandle" ∧ yX6_here.cls ≠ "java/lang/invoke/VarHandle" ∧ (parseMethodDescriptor yX6_here.desc).map (fun d => d.parameters.length) = some 0 := by decide +kernel
def k_X6_here : List (Nat × ac_op) := [(0, op_aload 0 1),
  (1, op_get 9 6 4),
  (4, op_push (.int 24) 6),
  (6, op_aload 0 7),
  (7, op_get 9 9 10),
  (10, op_ii (fun x y => x * y) 11),
  (11, op_aload 0 12),
  (12, op_get 9 10 15),
  (15, op_ii (fun x y => x + y) 16),
  (16, op_lald 17),
  (17, op_lreturn rm_X6_here)]
def T_X6_here : ac_T := ac_vc k_X6_here 1
set_option maxRecDepth 100000 in
set_option maxHeartbeats 4000000 in
theorem s_X6_here : ∀ x ∈ k_X6_here, ac_So M_X6_here (fun _ _ _ => False) x.1 x.2 :=
  ac_cons (so_aload_n dX6_here_0 rfl rfl) <|
  ac_cons (so_get (ci := 9) (f := 6) rfl in_X6 (by decide) dX6_here_1 wd_637 rfl) <|
  ac_cons (so_bipush dX6_here_4 (by decide +kernel) rfl) <|
  ac_cons (so_aload_n dX6_here_6 rfl rfl) <|
  ac_cons (so_get (ci := 9) (f := 9) rfl in_X6 (by decide) dX6_here_7 wd_640 rfl) <|
  ac_cons (so_imul dX6_here_10 rfl) <|
  ac_cons (so_aload_n dX6_here_11 rfl rfl) <|
  ac_cons (so_get (ci := 9) (f := 10) rfl in_X6 (by decide) dX6_here_12 wd_641 rfl) <|
  ac_cons (so_iadd dX6_here_15 rfl) <|
  ac_cons (so_lald dX6_here_16 rfl) <|
  ac_cons (so_lreturn rfl dX6_here_17) <| ac_nil
theorem C_X6_here : ac_Ct yX6_here M_X6_here T_X6_here := ac_meth (by decide +kernel) rfl rfl rfl rfl s_X6_here
-- X6_set
abbrev rm_X6_set : Room := { frames := 1, cells := 0, slots := 0, locals := 22 }
abbrev M_X6_set : ac_D := (RX6, "set", cX6_set, 3, some FieldType.long, [], rm_X6_set)
theorem tb_X6_set : ac_tb RX6 [] := fun q h => (by cases h)
theorem dy_X6_set : yX6_set.cls ≠ "java/lang/invoke/MethodHandle" ∧ yX6_set.cls ≠ "java/lang/invoke/VarHandle" ∧ (parseMethodDescriptor yX6_set.desc).map (fun d => d.parameters.length) = some 1 := by decide +kernel
def k_X6_set : List (Nat × ac_op) := [(0, op_aload 0 1),
  (1, op_get 9 6 4),
  (4, op_push (.int 24) 6),
  (6, op_aload 0 7),
  (7, op_get 9 9 10),
  (10, op_ii (fun x y => x * y) 11),
  (11, op_aload 0 12),
  (12, op_get 9 10 15),
  (15, op_ii (fun x y => x + y) 16),
  (16, op_aload 0 17),
  (17, op_get 9 1 20),
  (20, op_aload 0 21),
  (21, op_get 9 9 24),
  (24, op_iald 25),
  (25, op_lload 1 26),
  (26, op_callS rm_X6_set [] T_X6_fit rm_X6_fit 2 26 29),
  (29, op_last 30),
  (30, op_aload 0 31),
  (31, op_callV rm_X6_set [] 9 T_X6_here rm_X6_here 0 31 34),
  (34, op_lreturn rm_X6_set)]
def T_X6_set : ac_T := ac_vc k_X6_set 3
set_option maxRecDepth 100000 in
set_option maxHeartbeats 4000000 in
theorem s_X6_set : ∀ x ∈ k_X6_set, ac_So M_X6_set (fun _ _ _ => False) x.1 x.2 :=
  ac_cons (so_aload_n dX6_set_0 rfl rfl) <|
  ac_cons (so_get (ci := 9) (f := 6) rfl in_X6 (by decide) dX6_set_1 wd_637 rfl) <|
  ac_cons (so_bipush dX6_set_4 (by decide +kernel) rfl) <|
  ac_cons (so_aload_n dX6_set_6 rfl rfl) <|
  ac_cons (so_get (ci := 9) (f := 9) rfl in_X6 (by decide) dX6_set_7 wd_640 rfl) <|
  ac_cons (so_imul dX6_set_10 rfl) <|
  ac_cons (so_aload_n dX6_set_11 rfl rfl) <|
  ac_cons (so_get (ci := 9) (f := 10) rfl in_X6 (by decide) dX6_set_12 wd_641 rfl) <|
  ac_cons (so_iadd dX6_set_15 rfl) <|
  ac_cons (so_aload_n dX6_set_16 rfl rfl) <|
  ac_cons (so_get (ci := 9) (f := 1) rfl in_X6 (by decide) dX6_set_17 wd_632 rfl) <|
  ac_cons (so_aload_n dX6_set_20 rfl rfl) <|
  ac_cons (so_get (ci := 9) (f := 9) rfl in_X6 (by decide) dX6_set_21 wd_640 rfl) <|
  ac_cons (so_iald dX6_set_24 rfl) <|
  ac_cons (so_lload_n dX6_set_25 rfl rfl) <|
  ac_cons (so_callS (N := M_X6_fit) C_X6_fit rfl ⟨wd_759, wd_25, dy_X6_fit, ⟨by decide, by decide⟩, tb_X6_set⟩ dX6_set_26 wd_757 wd_758 rfl) <|
  ac_cons (so_last dX6_set_29 rfl) <|
  ac_cons (so_aload_n dX6_set_30 rfl rfl) <|
  ac_cons (so_callV (N := M_X6_here) (ci := 9) C_X6_here rfl ⟨wd_748, wd_25, dy_X6_here, ⟨by decide, by decide⟩, tb_X6_set⟩ rfl dX6_set_31 wd_745 wd_747 wd_16 rfl) <|
  ac_cons (so_lreturn rfl dX6_set_34) <| ac_nil
theorem C_X6_set : ac_Ct yX6_set M_X6_set T_X6_set := ac_meth (by decide +kernel) rfl rfl rfl rfl s_X6_set
-- X6_reach
abbrev rm_X6_reach : Room := { frames := 2, cells := 0, slots := 0, locals := 45 }
abbrev M_X6_reach : ac_D := (RX6, "reach", cX6_reach, 5, some FieldType.boolean, [], rm_X6_reach)
theorem tb_X6_reach : ac_tb RX6 [] := fun q h => (by cases h)
theorem dy_X6_reach : yX6_reach.cls ≠ "java/lang/invoke/MethodHandle" ∧ yX6_reach.cls ≠ "java/lang/invoke/VarHandle" ∧ (parseMethodDescriptor yX6_reach.desc).map (fun d => d.parameters.length) = some 3 := by decide +kernel
def k_X6_reach : List (Nat × ac_op) := [(0, op_aload 0 1),
  (1, op_get 9 0 4),
  (4, op_iload 1 5),
  (5, op_iald 6),
  (6, op_istore 4 8),
  (8, op_aload 0 9),
  (9, op_iload 4 11),
  (11, op_if (fun x => x < 0) 18 14),
  (14, op_push (.int 1) 15),
  (15, op_goto 19),
  (18, op_push (.int 0) 19),
  (19, op_push (.int 2) 20),
  (20, op_callV rm_X6_reach [] 9 T_X6_good rm_X6_good 2 20 23),
  (23, op_if (fun x => x = 0) 49 26),
  (26, op_aload 0 27),
  (27, op_aload 0 28),
  (28, op_iload 4 30),
  (30, op_callV rm_X6_reach [] 9 T_X6_sort rm_X6_sort 1 30 33),
  (33, op_iload 3 34),
  (34, op_icmp (fun x y => y < x) 41 37),
  (37, op_push (.int 1) 38),
  (38, op_goto 42),
  (41, op_push (.int 0) 42),
  (42, op_push (.int 3) 43),
  (43, op_callV rm_X6_reach [] 9 T_X6_good rm_X6_good 2 43 46),
  (46, op_if (fun x => ¬ x = 0) 51 49),
  (49, op_push (.int 0) 50),
  (50, op_zreturn rm_X6_reach),
  (51, op_aload 0 52),
  (52, op_aload 0 53),
  (53, op_iload 4 55),
  (55, op_iload 2 56),
  (56, op_callV rm_X6_reach [] 9 T_X6_find rm_X6_find 2 56 59),
  (59, op_put 9 11 62),
  (62, op_aload 0 63),
  (63, op_get 9 11 66),
  (66, op_if (fun x => ¬ x = 0) 73 69),
  (69, op_push (.int 1) 70),
  (70, op_goto 74),
  (73, op_push (.int 0) 74),
  (74, op_zreturn rm_X6_reach)]
def T_X6_reach : ac_T := ac_vc k_X6_reach 5
set_option maxRecDepth 100000 in
set_option maxHeartbeats 4000000 in
theorem s_X6_reach : ∀ x ∈ k_X6_reach, ac_So M_X6_reach (fun _ _ _ => False) x.1 x.2 :=
  ac_cons (so_aload_n dX6_reach_0 rfl rfl) <|
  ac_cons (so_get (ci := 9) (f := 0) rfl in_X6 (by decide) dX6_reach_1 wd_631 rfl) <|
  ac_cons (so_iload_n dX6_reach_4 rfl rfl) <|
  ac_cons (so_iald dX6_reach_5 rfl) <|
  ac_cons (so_istore dX6_reach_6 rfl) <|
  ac_cons (so_aload_n dX6_reach_8 rfl rfl) <|
  ac_cons (so_iload dX6_reach_9 rfl) <|
  ac_cons (so_if_lt dX6_reach_11 (by decide) rfl) <|
  ac_cons (so_iconst dX6_reach_14 (by decide +kernel) rfl) <|
  ac_cons (so_goto dX6_reach_15 (by decide)) <|
  ac_cons (so_iconst dX6_reach_18 (by decide +kernel) rfl) <|
  ac_cons (so_iconst dX6_reach_19 (by decide +kernel) rfl) <|
  ac_cons (so_callV (N := M_X6_good) (ci := 9) C_X6_good rfl ⟨wd_683, wd_25, dy_X6_good, ⟨by decide, by decide⟩, tb_X6_reach⟩ rfl dX6_reach_20 wd_680 wd_682 wd_8 rfl) <|
  ac_cons (so_if_eq dX6_reach_23 (by decide) rfl) <|
  ac_cons (so_aload_n dX6_reach_26 rfl rfl) <|
  ac_cons (so_aload_n dX6_reach_27 rfl rfl) <|
  ac_cons (so_iload dX6_reach_28 rfl) <|
  ac_cons (so_callV (N := M_X6_sort) (ci := 9) C_X6_sort rfl ⟨wd_736, wd_25, dy_X6_sort, ⟨by decide, by decide⟩, tb_X6_reach⟩ rfl dX6_reach_30 wd_733 wd_735 wd_13 rfl) <|
  ac_cons (so_iload_n dX6_reach_33 rfl rfl) <|
  ac_cons (so_icmp_gt dX6_reach_34 (by decide) rfl) <|
  ac_cons (so_iconst dX6_reach_37 (by decide +kernel) rfl) <|
  ac_cons (so_goto dX6_reach_38 (by decide)) <|
  ac_cons (so_iconst dX6_reach_41 (by decide +kernel) rfl) <|
  ac_cons (so_iconst dX6_reach_42 (by decide +kernel) rfl) <|
  ac_cons (so_callV (N := M_X6_good) (ci := 9) C_X6_good rfl ⟨wd_683, wd_25, dy_X6_good, ⟨by decide, by decide⟩, tb_X6_reach⟩ rfl dX6_reach_43 wd_680 wd_682 wd_8 rfl) <|
  ac_cons (so_if_ne dX6_reach_46 (by decide) rfl) <|
  ac_cons (so_iconst dX6_reach_49 (by decide +kernel) rfl) <|
  ac_cons (so_zreturn rfl dX6_reach_50) <|
  ac_cons (so_aload_n dX6_reach_51 rfl rfl) <|
  ac_cons (so_aload_n dX6_reach_52 rfl rfl) <|
  ac_cons (so_iload dX6_reach_53 rfl) <|
  ac_cons (so_iload_n dX6_reach_55 rfl rfl) <|
  ac_cons (so_callV (N := M_X6_find) (ci := 9) C_X6_find rfl ⟨wd_744, wd_25, dy_X6_find, ⟨by decide, by decide⟩, tb_X6_reach⟩ rfl dX6_reach_56 wd_741 wd_743 wd_15 rfl) <|
  ac_cons (so_put (ci := 9) (f := 11) rfl in_X6 tyX6_ok nmX6 (by decide) rfl rfl dX6_reach_59 wd_642 rfl) <|
  ac_cons (so_aload_n dX6_reach_62 rfl rfl) <|
  ac_cons (so_get (ci := 9) (f := 11) rfl in_X6 (by decide) dX6_reach_63 wd_642 rfl) <|
  ac_cons (so_if_ne dX6_reach_66 (by decide) rfl) <|
  ac_cons (so_iconst dX6_reach_69 (by decide +kernel) rfl) <|
  ac_cons (so_goto dX6_reach_70 (by decide)) <|
  ac_cons (so_iconst dX6_reach_73 (by decide +kernel) rfl) <|
  ac_cons (so_zreturn rfl dX6_reach_74) <| ac_nil
theorem C_X6_reach : ac_Ct yX6_reach M_X6_reach T_X6_reach := ac_meth (by decide +kernel) rfl rfl rfl rfl s_X6_reach
-- X6_take
abbrev rm_X6_take : Room := { frames := 3, cells := 0, slots := 0, locals := 69 }
abbrev M_X6_take : ac_D := (RX6, "take", cX6_take, 3, some FieldType.long, [], rm_X6_take)
theorem tb_X6_take : ac_tb RX6 [] := fun q h => (by cases h)
theorem dy_X6_take : yX6_take.cls ≠ "java/lang/invoke/MethodHandle" ∧ yX6_take.cls ≠ "java/lang/invoke/VarHandle" ∧ (parseMethodDescriptor yX6_take.desc).map (fun d => d.parameters.length) = some 2 := by decide +kernel
def k_X6_take : List (Nat × ac_op) := [(0, op_aload 0 1),
  (1, op_iload 1 2),
  (2, op_push (.int 0) 3),
  (3, op_callV rm_X6_take [] 9 T_X6_known rm_X6_known 2 3 6),
  (6, op_if (fun x => x = 0) 20 9),
  (9, op_aload 0 10),
  (10, op_iload 1 11),
  (11, op_iload 2 12),
  (12, op_push (.int 7) 14),
  (14, op_callV rm_X6_take [] 9 T_X6_reach rm_X6_reach 3 14 17),
  (17, op_if (fun x => ¬ x = 0) 22 20),
  (20, op_push (.long 0) 21),
  (21, op_lreturn rm_X6_take),
  (22, op_aload 0 23),
  (23, op_callV rm_X6_take [] 9 T_X6_here rm_X6_here 0 23 26),
  (26, op_lreturn rm_X6_take)]
def T_X6_take : ac_T := ac_vc k_X6_take 3
set_option maxRecDepth 100000 in
set_option maxHeartbeats 4000000 in
theorem s_X6_take : ∀ x ∈ k_X6_take, ac_So M_X6_take (fun _ _ _ => False) x.1 x.2 :=
  ac_cons (so_aload_n dX6_take_0 rfl rfl) <|
  ac_cons (so_iload_n dX6_take_1 rfl rfl) <|
  ac_cons (so_iconst dX6_take_2 (by decide +kernel) rfl) <|
  ac_cons (so_callV (N := M_X6_known) (ci := 9) C_X6_known rfl ⟨wd_704, wd_25, dy_X6_known, ⟨by decide, by decide⟩, tb_X6_take⟩ rfl dX6_take_3 wd_701 wd_703 wd_10 rfl) <|
  ac_cons (so_if_eq dX6_take_6 (by decide) rfl) <|
  ac_cons (so_aload_n dX6_take_9 rfl rfl) <|
  ac_cons (so_iload_n dX6_take_10 rfl rfl) <|
  ac_cons (so_iload_n dX6_take_11 rfl rfl) <|
  ac_cons (so_bipush dX6_take_12 (by decide +kernel) rfl) <|
  ac_cons (so_callV (N := M_X6_reach) (ci := 9) C_X6_reach rfl ⟨wd_732, wd_25, dy_X6_reach, ⟨by decide, by decide⟩, tb_X6_take⟩ rfl dX6_take_14 wd_729 wd_731 wd_12 rfl) <|
  ac_cons (so_if_ne dX6_take_17 (by decide) rfl) <|
  ac_cons (so_lconst dX6_take_20 (by decide +kernel) rfl) <|
  ac_cons (so_lreturn rfl dX6_take_21) <|
  ac_cons (so_aload_n dX6_take_22 rfl rfl) <|
  ac_cons (so_callV (N := M_X6_here) (ci := 9) C_X6_here rfl ⟨wd_748, wd_25, dy_X6_here, ⟨by decide, by decide⟩, tb_X6_take⟩ rfl dX6_take_23 wd_745 wd_747 wd_16 rfl) <|
  ac_cons (so_lreturn rfl dX6_take_26) <| ac_nil
theorem C_X6_take : ac_Ct yX6_take M_X6_take T_X6_take := ac_meth (by decide +kernel) rfl rfl rfl rfl s_X6_take
-- X6_put
abbrev rm_X6_put : Room := { frames := 3, cells := 0, slots := 0, locals := 69 }
abbrev M_X6_put : ac_D := (RX6, "put", cX6_put, 5, some FieldType.long, [], rm_X6_put)
theorem tb_X6_put : ac_tb RX6 [] := fun q h => (by cases h)
theorem dy_X6_put : yX6_put.cls ≠ "java/lang/invoke/MethodHandle" ∧ yX6_put.cls ≠ "java/lang/invoke/VarHandle" ∧ (parseMethodDescriptor yX6_put.desc).map (fun d => d.parameters.length) = some 3 := by decide +kernel
def k_X6_put : List (Nat × ac_op) := [(0, op_aload 0 1),
  (1, op_iload 1 2),
  (2, op_push (.int 0) 3),
  (3, op_callV rm_X6_put [] 9 T_X6_known rm_X6_known 2 3 6),
  (6, op_if (fun x => x = 0) 20 9),
  (9, op_aload 0 10),
  (10, op_iload 1 11),
  (11, op_iload 2 12),
  (12, op_push (.int 7) 14),
  (14, op_callV rm_X6_put [] 9 T_X6_reach rm_X6_reach 3 14 17),
  (17, op_if (fun x => ¬ x = 0) 22 20),
  (20, op_push (.long 0) 21),
  (21, op_lreturn rm_X6_put),
  (22, op_aload 0 23),
  (23, op_lload 3 24),
  (24, op_callV rm_X6_put [] 9 T_X6_set rm_X6_set 1 24 27),
  (27, op_lreturn rm_X6_put)]
def T_X6_put : ac_T := ac_vc k_X6_put 5
set_option maxRecDepth 100000 in
set_option maxHeartbeats 4000000 in
theorem s_X6_put : ∀ x ∈ k_X6_put, ac_So M_X6_put (fun _ _ _ => False) x.1 x.2 :=
  ac_cons (so_aload_n dX6_put_0 rfl rfl) <|
  ac_cons (so_iload_n dX6_put_1 rfl rfl) <|
  ac_cons (so_iconst dX6_put_2 (by decide +kernel) rfl) <|
  ac_cons (so_callV (N := M_X6_known) (ci := 9) C_X6_known rfl ⟨wd_704, wd_25, dy_X6_known, ⟨by decide, by decide⟩, tb_X6_put⟩ rfl dX6_put_3 wd_701 wd_703 wd_10 rfl) <|
  ac_cons (so_if_eq dX6_put_6 (by decide) rfl) <|
  ac_cons (so_aload_n dX6_put_9 rfl rfl) <|
  ac_cons (so_iload_n dX6_put_10 rfl rfl) <|
  ac_cons (so_iload_n dX6_put_11 rfl rfl) <|
  ac_cons (so_bipush dX6_put_12 (by decide +kernel) rfl) <|
  ac_cons (so_callV (N := M_X6_reach) (ci := 9) C_X6_reach rfl ⟨wd_732, wd_25, dy_X6_reach, ⟨by decide, by decide⟩, tb_X6_put⟩ rfl dX6_put_14 wd_729 wd_731 wd_12 rfl) <|
  ac_cons (so_if_ne dX6_put_17 (by decide) rfl) <|
  ac_cons (so_lconst dX6_put_20 (by decide +kernel) rfl) <|
  ac_cons (so_lreturn rfl dX6_put_21) <|
  ac_cons (so_aload_n dX6_put_22 rfl rfl) <|
  ac_cons (so_lload_n dX6_put_23 rfl rfl) <|
  ac_cons (so_callV (N := M_X6_set) (ci := 9) C_X6_set rfl ⟨wd_756, wd_25, dy_X6_set, ⟨by decide, by decide⟩, tb_X6_put⟩ rfl dX6_put_24 wd_753 wd_755 wd_17 rfl) <|
  ac_cons (so_lreturn rfl dX6_put_27) <| ac_nil
theorem C_X6_put : ac_Ct yX6_put M_X6_put T_X6_put := ac_meth (by decide +kernel) rfl rfl rfl rfl s_X6_put
-- X6_row
abbrev rm_X6_row : Room := { frames := 1, cells := 0, slots := 0, locals := 22 }
abbrev M_X6_row : ac_D := (RX6, "row", cX6_row, 4, some FieldType.boolean, [], rm_X6_row)
theorem tb_X6_row : ac_tb RX6 [] := fun q h => (by cases h)
theorem dy_X6_row : yX6_row.cls ≠ "java/lang/invoke/MethodHandle" ∧ yX6_row.cls ≠ "java/lang/invoke/VarHandle" ∧ (parseMethodDescriptor yX6_row.desc).map (fun d => d.parameters.length) = some 2 := by decide +kernel
def k_X6_row : List (Nat × ac_op) := [(0, op_aload 0 1),
  (1, op_get 9 0 4),
  (4, op_iload 1 5),
  (5, op_iald 6),
  (6, op_istore 3 7),
  (7, op_aload 0 8),
  (8, op_iload 3 9),
  (9, op_if (fun x => x < 0) 23 12),
  (12, op_aload 0 13),
  (13, op_get 9 1 16),
  (16, op_iload 3 17),
  (17, op_iald 18),
  (18, op_push (.int 9) 20),
  (20, op_icmp (fun x y => ¬ x = y) 27 23),
  (23, op_push (.int 1) 24),
  (24, op_goto 28),
  (27, op_push (.int 0) 28),
  (28, op_push (.int 2) 29),
  (29, op_callV rm_X6_row [] 9 T_X6_good rm_X6_good 2 29 32),
  (32, op_if (fun x => x = 0) 77 35),
  (35, op_aload 0 36),
  (36, op_iload 3 37),
  (37, op_if (fun x => x < 0) 44 40),
  (40, op_push (.int 1) 41),
  (41, op_goto 45),
  (44, op_push (.int 0) 45),
  (45, op_push (.int 3) 46),
  (46, op_callV rm_X6_row [] 9 T_X6_good rm_X6_good 2 46 49),
  (49, op_if (fun x => x = 0) 77 52),
  (52, op_aload 0 53),
  (53, op_iload 2 54),
  (54, op_push (.int 0) 55),
  (55, op_aload 0 56),
  (56, op_get 9 2 59),
  (59, op_iload 3 60),
  (60, op_iald 61),
  (61, op_push (.int 1) 62),
  (62, op_ii (fun x y => x - y) 63),
  (63, op_callS rm_X6_row [] T_X6_in rm_X6_in 3 63 66),
  (66, op_push (.int 4) 67),
  (67, op_callV rm_X6_row [] 9 T_X6_good rm_X6_good 2 67 70),
  (70, op_if (fun x => x = 0) 77 73),
  (73, op_push (.int 1) 74),
  (74, op_goto 78),
  (77, op_push (.int 0) 78),
  (78, op_zreturn rm_X6_row)]
def T_X6_row : ac_T := ac_vc k_X6_row 4
set_option maxRecDepth 100000 in
set_option maxHeartbeats 4000000 in
theorem s_X6_row : ∀ x ∈ k_X6_row, ac_So M_X6_row (fun _ _ _ => False) x.1 x.2 :=
  ac_cons (so_aload_n dX6_row_0 rfl rfl) <|
  ac_cons (so_get (ci := 9) (f := 0) rfl in_X6 (by decide) dX6_row_1 wd_631 rfl) <|
  ac_cons (so_iload_n dX6_row_4 rfl rfl) <|
  ac_cons (so_iald dX6_row_5 rfl) <|
  ac_cons (so_istore_n dX6_row_6 rfl rfl) <|
  ac_cons (so_aload_n dX6_row_7 rfl rfl) <|
  ac_cons (so_iload_n dX6_row_8 rfl rfl) <|
  ac_cons (so_if_lt dX6_row_9 (by decide) rfl) <|
  ac_cons (so_aload_n dX6_row_12 rfl rfl) <|
  ac_cons (so_get (ci := 9) (f := 1) rfl in_X6 (by decide) dX6_row_13 wd_632 rfl) <|
  ac_cons (so_iload_n dX6_row_16 rfl rfl) <|
  ac_cons (so_iald dX6_row_17 rfl) <|
  ac_cons (so_bipush dX6_row_18 (by decide +kernel) rfl) <|
  ac_cons (so_icmp_ne dX6_row_20 (by decide) rfl) <|
  ac_cons (so_iconst dX6_row_23 (by decide +kernel) rfl) <|
  ac_cons (so_goto dX6_row_24 (by decide)) <|
  ac_cons (so_iconst dX6_row_27 (by decide +kernel) rfl) <|
  ac_cons (so_iconst dX6_row_28 (by decide +kernel) rfl) <|
  ac_cons (so_callV (N := M_X6_good) (ci := 9) C_X6_good rfl ⟨wd_683, wd_25, dy_X6_good, ⟨by decide, by decide⟩, tb_X6_row⟩ rfl dX6_row_29 wd_680 wd_682 wd_8 rfl) <|
  ac_cons (so_if_eq dX6_row_32 (by decide) rfl) <|
  ac_cons (so_aload_n dX6_row_35 rfl rfl) <|
  ac_cons (so_iload_n dX6_row_36 rfl rfl) <|
  ac_cons (so_if_lt dX6_row_37 (by decide) rfl) <|
  ac_cons (so_iconst dX6_row_40 (by decide +kernel) rfl) <|
  ac_cons (so_goto dX6_row_41 (by decide)) <|
  ac_cons (so_iconst dX6_row_44 (by decide +kernel) rfl) <|
  ac_cons (so_iconst dX6_row_45 (by decide +kernel) rfl) <|
  ac_cons (so_callV (N := M_X6_good) (ci := 9) C_X6_good rfl ⟨wd_683, wd_25, dy_X6_good, ⟨by decide, by decide⟩, tb_X6_row⟩ rfl dX6_row_46 wd_680 wd_682 wd_8 rfl) <|
  ac_cons (so_if_eq dX6_row_49 (by decide) rfl) <|
  ac_cons (so_aload_n dX6_row_52 rfl rfl) <|
  ac_cons (so_iload_n dX6_row_53 rfl rfl) <|
  ac_cons (so_iconst dX6_row_54 (by decide +kernel) rfl) <|
  ac_cons (so_aload_n dX6_row_55 rfl rfl) <|
  ac_cons (so_get (ci := 9) (f := 2) rfl in_X6 (by decide) dX6_row_56 wd_633 rfl) <|
  ac_cons (so_iload_n dX6_row_59 rfl rfl) <|
  ac_cons (so_iald dX6_row_60 rfl) <|
  ac_cons (so_iconst dX6_row_61 (by decide +kernel) rfl) <|
  ac_cons (so_isub dX6_row_62 rfl) <|
  ac_cons (so_callS (N := M_X6_in) C_X6_in rfl ⟨wd_679, wd_25, dy_X6_in, ⟨by decide, by decide⟩, tb_X6_row⟩ dX6_row_63 wd_677 wd_678 rfl) <|
  ac_cons (so_iconst dX6_row_66 (by decide +kernel) rfl) <|
  ac_cons (so_callV (N := M_X6_good) (ci := 9) C_X6_good rfl ⟨wd_683, wd_25, dy_X6_good, ⟨by decide, by decide⟩, tb_X6_row⟩ rfl dX6_row_67 wd_680 wd_682 wd_8 rfl) <|
  ac_cons (so_if_eq dX6_row_70 (by decide) rfl) <|
  ac_cons (so_iconst dX6_row_73 (by decide +kernel) rfl) <|
  ac_cons (so_goto dX6_row_74 (by decide)) <|
  ac_cons (so_iconst dX6_row_77 (by decide +kernel) rfl) <|
  ac_cons (so_zreturn rfl dX6_row_78) <| ac_nil
theorem C_X6_row : ac_Ct yX6_row M_X6_row T_X6_row := ac_meth (by decide +kernel) rfl rfl rfl rfl s_X6_row
-- X6_column
abbrev rm_X6_column : Room := { frames := 1, cells := 0, slots := 0, locals := 22 }
abbrev M_X6_column : ac_D := (RX6, "column", cX6_column, 5, some FieldType.boolean, [], rm_X6_column)
theorem tb_X6_column : ac_tb RX6 [] := fun q h => (by cases h)
theorem dy_X6_column : yX6_column.cls ≠ "java/lang/invoke/MethodHandle" ∧ yX6_column.cls ≠ "java/lang/invoke/VarHandle" ∧ (parseMethodDescriptor yX6_column.desc).map (fun d => d.parameters.length) = some 3 := by decide +kernel
def k_X6_column : List (Nat × ac_op) := [(0, op_aload 0 1),
  (1, op_get 9 0 4),
  (4, op_iload 1 5),
  (5, op_iald 6),
  (6, op_istore 4 8),
  (8, op_aload 0 9),
  (9, op_iload 4 11),
  (11, op_put 9 9 14),
  (14, op_aload 0 15),
  (15, op_aload 0 16),
  (16, op_get 9 3 19),
  (19, op_iload 4 21),
  (21, op_iald 22),
  (22, op_iload 2 23),
  (23, op_ii (fun x y => x * y) 24),
  (24, op_iload 3 25),
  (25, op_ii (fun x y => x + y) 26),
  (26, op_put 9 10 29),
  (29, op_aload 0 30),
  (30, op_aload 0 31),
  (31, op_get 9 7 34),
  (34, op_push (.int 6) 36),
  (36, op_iload 4 38),
  (38, op_ii (fun x y => x * y) 39),
  (39, op_iload 2 40),
  (40, op_ii (fun x y => x + y) 41),
  (41, op_zald 42),
  (42, op_if (fun x => ¬ x = 0) 49 45),
  (45, op_push (.int 1) 46),
  (46, op_goto 50),
  (49, op_push (.int 0) 50),
  (50, op_push (.int 3) 51),
  (51, op_callV rm_X6_column [] 9 T_X6_good rm_X6_good 2 51 54),
  (54, op_if (fun x => x = 0) 83 57),
  (57, op_aload 0 58),
  (58, op_iload 3 59),
  (59, op_push (.int 0) 60),
  (60, op_aload 0 61),
  (61, op_get 9 3 64),
  (64, op_iload 4 66),
  (66, op_iald 67),
  (67, op_push (.int 1) 68),
  (68, op_ii (fun x y => x - y) 69),
  (69, op_callS rm_X6_column [] T_X6_in rm_X6_in 3 69 72),
  (72, op_push (.int 4) 73),
  (73, op_callV rm_X6_column [] 9 T_X6_good rm_X6_good 2 73 76),
  (76, op_if (fun x => x = 0) 83 79),
  (79, op_push (.int 1) 80),
  (80, op_goto 84),
  (83, op_push (.int 0) 84),
  (84, op_zreturn rm_X6_column)]
def T_X6_column : ac_T := ac_vc k_X6_column 5
set_option maxRecDepth 100000 in
set_option maxHeartbeats 4000000 in
theorem s_X6_column : ∀ x ∈ k_X6_column, ac_So M_X6_column (fun _ _ _ => False) x.1 x.2 :=
  ac_cons (so_aload_n dX6_column_0 rfl rfl) <|
  ac_cons (so_get (ci := 9) (f := 0) rfl in_X6 (by decide) dX6_column_1 wd_631 rfl) <|
  ac_cons (so_iload_n dX6_column_4 rfl rfl) <|
  ac_cons (so_iald dX6_column_5 rfl) <|
  ac_cons (so_istore dX6_column_6 rfl) <|
  ac_cons (so_aload_n dX6_column_8 rfl rfl) <|
  ac_cons (so_iload dX6_column_9 rfl) <|
  ac_cons (so_put (ci := 9) (f := 9) rfl in_X6 tyX6_ok nmX6 (by decide) rfl rfl dX6_column_11 wd_640 rfl) <|
  ac_cons (so_aload_n dX6_column_14 rfl rfl) <|
  ac_cons (so_aload_n dX6_column_15 rfl rfl) <|
  ac_cons (so_get (ci := 9) (f := 3) rfl in_X6 (by decide) dX6_column_16 wd_634 rfl) <|
  ac_cons (so_iload dX6_column_19 rfl) <|
  ac_cons (so_iald dX6_column_21 rfl) <|
  ac_cons (so_iload_n dX6_column_22 rfl rfl) <|
  ac_cons (so_imul dX6_column_23 rfl) <|
  ac_cons (so_iload_n dX6_column_24 rfl rfl) <|
  ac_cons (so_iadd dX6_column_25 rfl) <|
  ac_cons (so_put (ci := 9) (f := 10) rfl in_X6 tyX6_ok nmX6 (by decide) rfl rfl dX6_column_26 wd_641 rfl) <|
  ac_cons (so_aload_n dX6_column_29 rfl rfl) <|
  ac_cons (so_aload_n dX6_column_30 rfl rfl) <|
  ac_cons (so_get (ci := 9) (f := 7) rfl in_X6 (by decide) dX6_column_31 wd_638 rfl) <|
  ac_cons (so_bipush dX6_column_34 (by decide +kernel) rfl) <|
  ac_cons (so_iload dX6_column_36 rfl) <|
  ac_cons (so_imul dX6_column_38 rfl) <|
  ac_cons (so_iload_n dX6_column_39 rfl rfl) <|
  ac_cons (so_iadd dX6_column_40 rfl) <|
  ac_cons (so_zald dX6_column_41 rfl) <|
  ac_cons (so_if_ne dX6_column_42 (by decide) rfl) <|
  ac_cons (so_iconst dX6_column_45 (by decide +kernel) rfl) <|
  ac_cons (so_goto dX6_column_46 (by decide)) <|
  ac_cons (so_iconst dX6_column_49 (by decide +kernel) rfl) <|
  ac_cons (so_iconst dX6_column_50 (by decide +kernel) rfl) <|
  ac_cons (so_callV (N := M_X6_good) (ci := 9) C_X6_good rfl ⟨wd_683, wd_25, dy_X6_good, ⟨by decide, by decide⟩, tb_X6_column⟩ rfl dX6_column_51 wd_680 wd_682 wd_8 rfl) <|
  ac_cons (so_if_eq dX6_column_54 (by decide) rfl) <|
  ac_cons (so_aload_n dX6_column_57 rfl rfl) <|
  ac_cons (so_iload_n dX6_column_58 rfl rfl) <|
  ac_cons (so_iconst dX6_column_59 (by decide +kernel) rfl) <|
  ac_cons (so_aload_n dX6_column_60 rfl rfl) <|
  ac_cons (so_get (ci := 9) (f := 3) rfl in_X6 (by decide) dX6_column_61 wd_634 rfl) <|
  ac_cons (so_iload dX6_column_64 rfl) <|
  ac_cons (so_iald dX6_column_66 rfl) <|
  ac_cons (so_iconst dX6_column_67 (by decide +kernel) rfl) <|
  ac_cons (so_isub dX6_column_68 rfl) <|
  ac_cons (so_callS (N := M_X6_in) C_X6_in rfl ⟨wd_679, wd_25, dy_X6_in, ⟨by decide, by decide⟩, tb_X6_column⟩ dX6_column_69 wd_677 wd_678 rfl) <|
  ac_cons (so_iconst dX6_column_72 (by decide +kernel) rfl) <|
  ac_cons (so_callV (N := M_X6_good) (ci := 9) C_X6_good rfl ⟨wd_683, wd_25, dy_X6_good, ⟨by decide, by decide⟩, tb_X6_column⟩ rfl dX6_column_73 wd_680 wd_682 wd_8 rfl) <|
  ac_cons (so_if_eq dX6_column_76 (by decide) rfl) <|
  ac_cons (so_iconst dX6_column_79 (by decide +kernel) rfl) <|
  ac_cons (so_goto dX6_column_80 (by decide)) <|
  ac_cons (so_iconst dX6_column_83 (by decide +kernel) rfl) <|
  ac_cons (so_zreturn rfl dX6_column_84) <| ac_nil
theorem C_X6_column : ac_Ct yX6_column M_X6_column T_X6_column := ac_meth (by decide +kernel) rfl rfl rfl rfl s_X6_column
-- X6_cell
abbrev rm_X6_cell : Room := { frames := 2, cells := 0, slots := 0, locals := 46 }
abbrev M_X6_cell : ac_D := (RX6, "cell", cX6_cell, 4, some FieldType.int, [], rm_X6_cell)
theorem tb_X6_cell : ac_tb RX6 [] := fun q h => (by cases h)
theorem dy_X6_cell : yX6_cell.cls ≠ "java/lang/invoke/MethodHandle" ∧ yX6_cell.cls ≠ "java/lang/invoke/VarHandle" ∧ (parseMethodDescriptor yX6_cell.desc).map (fun d => d.parameters.length) = some 3 := by decide +kernel
def k_X6_cell : List (Nat × ac_op) := [(0, op_aload 0 1),
  (1, op_iload 1 2),
  (2, op_push (.int 0) 3),
  (3, op_callV rm_X6_cell [] 9 T_X6_known rm_X6_known 2 3 6),
  (6, op_if (fun x => x = 0) 28 9),
  (9, op_aload 0 10),
  (10, op_iload 1 11),
  (11, op_iload 2 12),
  (12, op_callV rm_X6_cell [] 9 T_X6_row rm_X6_row 2 12 15),
  (15, op_if (fun x => x = 0) 28 18),
  (18, op_aload 0 19),
  (19, op_iload 1 20),
  (20, op_iload 2 21),
  (21, op_iload 3 22),
  (22, op_callV rm_X6_cell [] 9 T_X6_column rm_X6_column 3 22 25),
  (25, op_if (fun x => ¬ x = 0) 30 28),
  (28, op_push (.int 0) 29),
  (29, op_ireturn rm_X6_cell),
  (30, op_aload 0 31),
  (31, op_callV rm_X6_cell [] 9 T_X6_here rm_X6_here 0 31 34),
  (34, op_l (fun x => .int x.toInt32) 35),
  (35, op_ireturn rm_X6_cell)]
def T_X6_cell : ac_T := ac_vc k_X6_cell 4
set_option maxRecDepth 100000 in
set_option maxHeartbeats 4000000 in
theorem s_X6_cell : ∀ x ∈ k_X6_cell, ac_So M_X6_cell (fun _ _ _ => False) x.1 x.2 :=
  ac_cons (so_aload_n dX6_cell_0 rfl rfl) <|
  ac_cons (so_iload_n dX6_cell_1 rfl rfl) <|
  ac_cons (so_iconst dX6_cell_2 (by decide +kernel) rfl) <|
  ac_cons (so_callV (N := M_X6_known) (ci := 9) C_X6_known rfl ⟨wd_704, wd_25, dy_X6_known, ⟨by decide, by decide⟩, tb_X6_cell⟩ rfl dX6_cell_3 wd_701 wd_703 wd_10 rfl) <|
  ac_cons (so_if_eq dX6_cell_6 (by decide) rfl) <|
  ac_cons (so_aload_n dX6_cell_9 rfl rfl) <|
  ac_cons (so_iload_n dX6_cell_10 rfl rfl) <|
  ac_cons (so_iload_n dX6_cell_11 rfl rfl) <|
  ac_cons (so_callV (N := M_X6_row) (ci := 9) C_X6_row rfl ⟨wd_768, wd_25, dy_X6_row, ⟨by decide, by decide⟩, tb_X6_cell⟩ rfl dX6_cell_12 wd_765 wd_767 wd_18 rfl) <|
  ac_cons (so_if_eq dX6_cell_15 (by decide) rfl) <|
  ac_cons (so_aload_n dX6_cell_18 rfl rfl) <|
  ac_cons (so_iload_n dX6_cell_19 rfl rfl) <|
  ac_cons (so_iload_n dX6_cell_20 rfl rfl) <|
  ac_cons (so_iload_n dX6_cell_21 rfl rfl) <|
  ac_cons (so_callV (N := M_X6_column) (ci := 9) C_X6_column rfl ⟨wd_772, wd_25, dy_X6_column, ⟨by decide, by decide⟩, tb_X6_cell⟩ rfl dX6_cell_22 wd_769 wd_771 wd_19 rfl) <|
  ac_cons (so_if_ne dX6_cell_25 (by decide) rfl) <|
  ac_cons (so_iconst dX6_cell_28 (by decide +kernel) rfl) <|
  ac_cons (so_ireturn rfl dX6_cell_29) <|
  ac_cons (so_aload_n dX6_cell_30 rfl rfl) <|
  ac_cons (so_callV (N := M_X6_here) (ci := 9) C_X6_here rfl ⟨wd_748, wd_25, dy_X6_here, ⟨by decide, by decide⟩, tb_X6_cell⟩ rfl dX6_cell_31 wd_745 wd_747 wd_16 rfl) <|
  ac_cons (so_l2i dX6_cell_34 rfl) <|
  ac_cons (so_ireturn rfl dX6_cell_35) <| ac_nil
theorem C_X6_cell : ac_Ct yX6_cell M_X6_cell T_X6_cell := ac_meth (by decide +kernel) rfl rfl rfl rfl s_X6_cell
-- X6_setCell
abbrev rm_X6_setCell : Room := { frames := 2, cells := 0, slots := 0, locals := 46 }
abbrev M_X6_setCell : ac_D := (RX6, "setCell", cX6_setCell, 6, none, [], rm_X6_setCell)
theorem tb_X6_setCell : ac_tb RX6 [] := fun q h => (by cases h)
theorem dy_X6_setCell : yX6_setCell.cls ≠ "java/lang/invoke/MethodHandle" ∧ yX6_setCell.cls ≠ "java/lang/invoke/VarHandle" ∧ (parseMethodDescriptor yX6_setCell.desc).map (fun d => d.parameters.length) = some 5 := by decide +kernel
def k_X6_setCell : List (Nat × ac_op) := [(0, op_aload 0 1),
  (1, op_iload 1 2),
  (2, op_push (.int 0) 3),
  (3, op_callV rm_X6_setCell [] 9 T_X6_known rm_X6_known 2 3 6),
  (6, op_if (fun x => x = 0) 46 9),
  (9, op_aload 0 10),
  (10, op_iload 1 11),
  (11, op_iload 2 12),
  (12, op_callV rm_X6_setCell [] 9 T_X6_row rm_X6_row 2 12 15),
  (15, op_if (fun x => x = 0) 46 18),
  (18, op_aload 0 19),
  (19, op_iload 5 21),
  (21, op_if (fun x => x = 0) 28 24),
  (24, op_push (.int 1) 25),
  (25, op_goto 29),
  (28, op_push (.int 0) 29),
  (29, op_push (.int 5) 30),
  (30, op_callV rm_X6_setCell [] 9 T_X6_good rm_X6_good 2 30 33),
  (33, op_if (fun x => x = 0) 46 36),
  (36, op_aload 0 37),
  (37, op_iload 1 38),
  (38, op_iload 2 39),
  (39, op_iload 3 40),
  (40, op_callV rm_X6_setCell [] 9 T_X6_column rm_X6_column 3 40 43),
  (43, op_if (fun x => ¬ x = 0) 47 46),
  (46, op_return rm_X6_setCell),
  (47, op_aload 0 48),
  (48, op_get 9 6 51),
  (51, op_push (.int 24) 53),
  (53, op_aload 0 54),
  (54, op_get 9 9 57),
  (57, op_ii (fun x y => x * y) 58),
  (58, op_aload 0 59),
  (59, op_get 9 10 62),
  (62, op_ii (fun x y => x + y) 63),
  (63, op_iload 5 65),
  (65, op_push (.int (-1)) 66),
  (66, op_icmp (fun x y => ¬ x = y) 77 69),
  (69, op_push (.int 0) 70),
  (70, op_iload 4 72),
  (72, op_ii (fun x y => x - y) 73),
  (73, op_i (fun x => .long x.toInt64) 74),
  (74, op_goto 83),
  (77, op_iload 4 79),
  (79, op_iload 5 81),
  (81, op_idiv 82),
  (82, op_i (fun x => .long x.toInt64) 83),
  (83, op_last 84),
  (84, op_return rm_X6_setCell)]
def T_X6_setCell : ac_T := ac_vc k_X6_setCell 6
set_option maxRecDepth 100000 in
set_option maxHeartbeats 4000000 in
theorem s_X6_setCell : ∀ x ∈ k_X6_setCell, ac_So M_X6_setCell (fun _ _ _ => False) x.1 x.2 :=
  ac_cons (so_aload_n dX6_setCell_0 rfl rfl) <|
  ac_cons (so_iload_n dX6_setCell_1 rfl rfl) <|
  ac_cons (so_iconst dX6_setCell_2 (by decide +kernel) rfl) <|
  ac_cons (so_callV (N := M_X6_known) (ci := 9) C_X6_known rfl ⟨wd_704, wd_25, dy_X6_known, ⟨by decide, by decide⟩, tb_X6_setCell⟩ rfl dX6_setCell_3 wd_701 wd_703 wd_10 rfl) <|
  ac_cons (so_if_eq dX6_setCell_6 (by decide) rfl) <|
  ac_cons (so_aload_n dX6_setCell_9 rfl rfl) <|
  ac_cons (so_iload_n dX6_setCell_10 rfl rfl) <|
  ac_cons (so_iload_n dX6_setCell_11 rfl rfl) <|
  ac_cons (so_callV (N := M_X6_row) (ci := 9) C_X6_row rfl ⟨wd_768, wd_25, dy_X6_row, ⟨by decide, by decide⟩, tb_X6_setCell⟩ rfl dX6_setCell_12 wd_765 wd_767 wd_18 rfl) <|
  ac_cons (so_if_eq dX6_setCell_15 (by decide) rfl) <|
  ac_cons (so_aload_n dX6_setCell_18 rfl rfl) <|
  ac_cons (so_iload dX6_setCell_19 rfl) <|
  ac_cons (so_if_eq dX6_setCell_21 (by decide) rfl) <|
  ac_cons (so_iconst dX6_setCell_24 (by decide +kernel) rfl) <|
  ac_cons (so_goto dX6_setCell_25 (by decide)) <|
  ac_cons (so_iconst dX6_setCell_28 (by decide +kernel) rfl) <|
  ac_cons (so_iconst dX6_setCell_29 (by decide +kernel) rfl) <|
  ac_cons (so_callV (N := M_X6_good) (ci := 9) C_X6_good rfl ⟨wd_683, wd_25, dy_X6_good, ⟨by decide, by decide⟩, tb_X6_setCell⟩ rfl dX6_setCell_30 wd_680 wd_682 wd_8 rfl) <|
  ac_cons (so_if_eq dX6_setCell_33 (by decide) rfl) <|
  ac_cons (so_aload_n dX6_setCell_36 rfl rfl) <|
  ac_cons (so_iload_n dX6_setCell_37 rfl rfl) <|
  ac_cons (so_iload_n dX6_setCell_38 rfl rfl) <|
  ac_cons (so_iload_n dX6_setCell_39 rfl rfl) <|
  ac_cons (so_callV (N := M_X6_column) (ci := 9) C_X6_column rfl ⟨wd_772, wd_25, dy_X6_column, ⟨by decide, by decide⟩, tb_X6_setCell⟩ rfl dX6_setCell_40 wd_769 wd_771 wd_19 rfl) <|
  ac_cons (so_if_ne dX6_setCell_43 (by decide) rfl) <|
  ac_cons (so_return rfl dX6_setCell_46) <|
  ac_cons (so_aload_n dX6_setCell_47 rfl rfl) <|
  ac_cons (so_get (ci := 9) (f := 6) rfl in_X6 (by decide) dX6_setCell_48 wd_637 rfl) <|
  ac_cons (so_bipush dX6_setCell_51 (by decide +kernel) rfl) <|
  ac_cons (so_aload_n dX6_setCell_53 rfl rfl) <|
  ac_cons (so_get (ci := 9) (f := 9) rfl in_X6 (by decide) dX6_setCell_54 wd_640 rfl) <|
  ac_cons (so_imul dX6_setCell_57 rfl) <|
  ac_cons (so_aload_n dX6_setCell_58 rfl rfl) <|
  ac_cons (so_get (ci := 9) (f := 10) rfl in_X6 (by decide) dX6_setCell_59 wd_641 rfl) <|
  ac_cons (so_iadd dX6_setCell_62 rfl) <|
  ac_cons (so_iload dX6_setCell_63 rfl) <|
  ac_cons (so_iconst dX6_setCell_65 (by decide +kernel) rfl) <|
  ac_cons (so_icmp_ne dX6_setCell_66 (by decide) rfl) <|
  ac_cons (so_iconst dX6_setCell_69 (by decide +kernel) rfl) <|
  ac_cons (so_iload dX6_setCell_70 rfl) <|
  ac_cons (so_isub dX6_setCell_72 rfl) <|
  ac_cons (so_i2l dX6_setCell_73 rfl) <|
  ac_cons (so_goto dX6_setCell_74 (by decide)) <|
  ac_cons (so_iload dX6_setCell_77 rfl) <|
  ac_cons (so_iload dX6_setCell_79 rfl) <|
  ac_cons (so_idiv dX6_setCell_81 rfl) <|
  ac_cons (so_i2l dX6_setCell_82 rfl) <|
  ac_cons (so_last dX6_setCell_83 rfl) <|
  ac_cons (so_return rfl dX6_setCell_84) <| ac_nil
theorem C_X6_setCell : ac_Ct yX6_setCell M_X6_setCell T_X6_setCell := ac_meth (by decide +kernel) rfl rfl rfl rfl s_X6_setCell
-- X6_reachItem
abbrev rm_X6_reachItem : Room := { frames := 2, cells := 0, slots := 0, locals := 45 }
abbrev M_X6_reachItem : ac_D := (RX6, "reachItem", cX6_reachItem, 4, some FieldType.boolean, [], rm_X6_reachItem)
theorem tb_X6_reachItem : ac_tb RX6 [] := fun q h => (by cases h)
theorem dy_X6_reachItem : yX6_reachItem.cls ≠ "java/lang/invoke/MethodHandle" ∧ yX6_reachItem.cls ≠ "java/lang/invoke/VarHandle" ∧ (parseMethodDescriptor yX6_reachItem.desc).map (fun d => d.parameters.length) = some 2 := by decide +kernel
def k_X6_reachItem : List (Nat × ac_op) := [(0, op_aload 0 1),
  (1, op_get 9 0 4),
  (4, op_iload 1 5),
  (5, op_iald 6),
  (6, op_istore 3 7),
  (7, op_aload 0 8),
  (8, op_iload 3 9),
  (9, op_if (fun x => x < 0) 16 12),
  (12, op_push (.int 1) 13),
  (13, op_goto 17),
  (16, op_push (.int 0) 17),
  (17, op_push (.int 2) 18),
  (18, op_callV rm_X6_reachItem [] 9 T_X6_good rm_X6_good 2 18 21),
  (21, op_if (fun x => x = 0) 47 24),
  (24, op_aload 0 25),
  (25, op_aload 0 26),
  (26, op_iload 3 27),
  (27, op_callV rm_X6_reachItem [] 9 T_X6_sort rm_X6_sort 1 27 30),
  (30, op_push (.int 8) 32),
  (32, op_icmp (fun x y => ¬ x = y) 39 35),
  (35, op_push (.int 1) 36),
  (36, op_goto 40),
  (39, op_push (.int 0) 40),
  (40, op_push (.int 3) 41),
  (41, op_callV rm_X6_reachItem [] 9 T_X6_good rm_X6_good 2 41 44),
  (44, op_if (fun x => ¬ x = 0) 49 47),
  (47, op_push (.int 0) 48),
  (48, op_zreturn rm_X6_reachItem),
  (49, op_aload 0 50),
  (50, op_aload 0 51),
  (51, op_iload 3 52),
  (52, op_iload 2 53),
  (53, op_callV rm_X6_reachItem [] 9 T_X6_find rm_X6_find 2 53 56),
  (56, op_put 9 11 59),
  (59, op_aload 0 60),
  (60, op_get 9 11 63),
  (63, op_if (fun x => ¬ x = 0) 70 66),
  (66, op_push (.int 1) 67),
  (67, op_goto 71),
  (70, op_push (.int 0) 71),
  (71, op_zreturn rm_X6_reachItem)]
def T_X6_reachItem : ac_T := ac_vc k_X6_reachItem 4
set_option maxRecDepth 100000 in
set_option maxHeartbeats 4000000 in
theorem s_X6_reachItem : ∀ x ∈ k_X6_reachItem, ac_So M_X6_reachItem (fun _ _ _ => False) x.1 x.2 :=
  ac_cons (so_aload_n dX6_reachItem_0 rfl rfl) <|
  ac_cons (so_get (ci := 9) (f := 0) rfl in_X6 (by decide) dX6_reachItem_1 wd_631 rfl) <|
  ac_cons (so_iload_n dX6_reachItem_4 rfl rfl) <|
  ac_cons (so_iald dX6_reachItem_5 rfl) <|
  ac_cons (so_istore_n dX6_reachItem_6 rfl rfl) <|
  ac_cons (so_aload_n dX6_reachItem_7 rfl rfl) <|
  ac_cons (so_iload_n dX6_reachItem_8 rfl rfl) <|
  ac_cons (so_if_lt dX6_reachItem_9 (by decide) rfl) <|
  ac_cons (so_iconst dX6_reachItem_12 (by decide +kernel) rfl) <|
  ac_cons (so_goto dX6_reachItem_13 (by decide)) <|
  ac_cons (so_iconst dX6_reachItem_16 (by decide +kernel) rfl) <|
  ac_cons (so_iconst dX6_reachItem_17 (by decide +kernel) rfl) <|
  ac_cons (so_callV (N := M_X6_good) (ci := 9) C_X6_good rfl ⟨wd_683, wd_25, dy_X6_good, ⟨by decide, by decide⟩, tb_X6_reachItem⟩ rfl dX6_reachItem_18 wd_680 wd_682 wd_8 rfl) <|
  ac_cons (so_if_eq dX6_reachItem_21 (by decide) rfl) <|
  ac_cons (so_aload_n dX6_reachItem_24 rfl rfl) <|
  ac_cons (so_aload_n dX6_reachItem_25 rfl rfl) <|
  ac_cons (so_iload_n dX6_reachItem_26 rfl rfl) <|
  ac_cons (so_callV (N := M_X6_sort) (ci := 9) C_X6_sort rfl ⟨wd_736, wd_25, dy_X6_sort, ⟨by decide, by decide⟩, tb_X6_reachItem⟩ rfl dX6_reachItem_27 wd_733 wd_735 wd_13 rfl) <|
  ac_cons (so_bipush dX6_reachItem_30 (by decide +kernel) rfl) <|
  ac_cons (so_icmp_ne dX6_reachItem_32 (by decide) rfl) <|
  ac_cons (so_iconst dX6_reachItem_35 (by decide +kernel) rfl) <|
  ac_cons (so_goto dX6_reachItem_36 (by decide)) <|
  ac_cons (so_iconst dX6_reachItem_39 (by decide +kernel) rfl) <|
  ac_cons (so_iconst dX6_reachItem_40 (by decide +kernel) rfl) <|
  ac_cons (so_callV (N := M_X6_good) (ci := 9) C_X6_good rfl ⟨wd_683, wd_25, dy_X6_good, ⟨by decide, by decide⟩, tb_X6_reachItem⟩ rfl dX6_reachItem_41 wd_680 wd_682 wd_8 rfl) <|
  ac_cons (so_if_ne dX6_reachItem_44 (by decide) rfl) <|
  ac_cons (so_iconst dX6_reachItem_47 (by decide +kernel) rfl) <|
  ac_cons (so_zreturn rfl dX6_reachItem_48) <|
  ac_cons (so_aload_n dX6_reachItem_49 rfl rfl) <|
  ac_cons (so_aload_n dX6_reachItem_50 rfl rfl) <|
  ac_cons (so_iload_n dX6_reachItem_51 rfl rfl) <|
  ac_cons (so_iload_n dX6_reachItem_52 rfl rfl) <|
  ac_cons (so_callV (N := M_X6_find) (ci := 9) C_X6_find rfl ⟨wd_744, wd_25, dy_X6_find, ⟨by decide, by decide⟩, tb_X6_reachItem⟩ rfl dX6_reachItem_53 wd_741 wd_743 wd_15 rfl) <|
  ac_cons (so_put (ci := 9) (f := 11) rfl in_X6 tyX6_ok nmX6 (by decide) rfl rfl dX6_reachItem_56 wd_642 rfl) <|
  ac_cons (so_aload_n dX6_reachItem_59 rfl rfl) <|
  ac_cons (so_get (ci := 9) (f := 11) rfl in_X6 (by decide) dX6_reachItem_60 wd_642 rfl) <|
  ac_cons (so_if_ne dX6_reachItem_63 (by decide) rfl) <|
  ac_cons (so_iconst dX6_reachItem_66 (by decide +kernel) rfl) <|
  ac_cons (so_goto dX6_reachItem_67 (by decide)) <|
  ac_cons (so_iconst dX6_reachItem_70 (by decide +kernel) rfl) <|
  ac_cons (so_zreturn rfl dX6_reachItem_71) <| ac_nil
theorem C_X6_reachItem : ac_Ct yX6_reachItem M_X6_reachItem T_X6_reachItem := ac_meth (by decide +kernel) rfl rfl rfl rfl s_X6_reachItem
-- X6_refer
abbrev rm_X6_refer : Room := { frames := 3, cells := 0, slots := 0, locals := 68 }
abbrev M_X6_refer : ac_D := (RX6, "refer", cX6_refer, 4, none, [], rm_X6_refer)
theorem tb_X6_refer : ac_tb RX6 [] := fun q h => (by cases h)
theorem dy_X6_refer : yX6_refer.cls ≠ "java/lang/invoke/MethodHandle" ∧ yX6_refer.cls ≠ "java/lang/invoke/VarHandle" ∧ (parseMethodDescriptor yX6_refer.desc).map (fun d => d.parameters.length) = some 3 := by decide +kernel
def k_X6_refer : List (Nat × ac_op) := [(0, op_aload 0 1),
  (1, op_iload 1 2),
  (2, op_iload 3 3),
  (3, op_callV rm_X6_refer [] 9 T_X6_known rm_X6_known 2 3 6),
  (6, op_if (fun x => x = 0) 18 9),
  (9, op_aload 0 10),
  (10, op_iload 1 11),
  (11, op_iload 2 12),
  (12, op_callV rm_X6_refer [] 9 T_X6_reachItem rm_X6_reachItem 2 12 15),
  (15, op_if (fun x => ¬ x = 0) 19 18),
  (18, op_return rm_X6_refer),
  (19, op_aload 0 20),
  (20, op_get 9 6 23),
  (23, op_push (.int 24) 25),
  (25, op_aload 0 26),
  (26, op_get 9 9 29),
  (29, op_ii (fun x y => x * y) 30),
  (30, op_aload 0 31),
  (31, op_get 9 10 34),
  (34, op_ii (fun x y => x + y) 35),
  (35, op_aload 0 36),
  (36, op_get 9 0 39),
  (39, op_iload 3 40),
  (40, op_iald 41),
  (41, op_i (fun x => .long x.toInt64) 42),
  (42, op_last 43),
  (43, op_return rm_X6_refer)]
def T_X6_refer : ac_T := ac_vc k_X6_refer 4
set_option maxRecDepth 100000 in
set_option maxHeartbeats 4000000 in
theorem s_X6_refer : ∀ x ∈ k_X6_refer, ac_So M_X6_refer (fun _ _ _ => False) x.1 x.2 :=
  ac_cons (so_aload_n dX6_refer_0 rfl rfl) <|
  ac_cons (so_iload_n dX6_refer_1 rfl rfl) <|
  ac_cons (so_iload_n dX6_refer_2 rfl rfl) <|
  ac_cons (so_callV (N := M_X6_known) (ci := 9) C_X6_known rfl ⟨wd_704, wd_25, dy_X6_known, ⟨by decide, by decide⟩, tb_X6_refer⟩ rfl dX6_refer_3 wd_701 wd_703 wd_10 rfl) <|
  ac_cons (so_if_eq dX6_refer_6 (by decide) rfl) <|
  ac_cons (so_aload_n dX6_refer_9 rfl rfl) <|
  ac_cons (so_iload_n dX6_refer_10 rfl rfl) <|
  ac_cons (so_iload_n dX6_refer_11 rfl rfl) <|
  ac_cons (so_callV (N := M_X6_reachItem) (ci := 9) C_X6_reachItem rfl ⟨wd_784, wd_25, dy_X6_reachItem, ⟨by decide, by decide⟩, tb_X6_refer⟩ rfl dX6_refer_12 wd_781 wd_783 wd_20 rfl) <|
  ac_cons (so_if_ne dX6_refer_15 (by decide) rfl) <|
  ac_cons (so_return rfl dX6_refer_18) <|
  ac_cons (so_aload_n dX6_refer_19 rfl rfl) <|
  ac_cons (so_get (ci := 9) (f := 6) rfl in_X6 (by decide) dX6_refer_20 wd_637 rfl) <|
  ac_cons (so_bipush dX6_refer_23 (by decide +kernel) rfl) <|
  ac_cons (so_aload_n dX6_refer_25 rfl rfl) <|
  ac_cons (so_get (ci := 9) (f := 9) rfl in_X6 (by decide) dX6_refer_26 wd_640 rfl) <|
  ac_cons (so_imul dX6_refer_29 rfl) <|
  ac_cons (so_aload_n dX6_refer_30 rfl rfl) <|
  ac_cons (so_get (ci := 9) (f := 10) rfl in_X6 (by decide) dX6_refer_31 wd_641 rfl) <|
  ac_cons (so_iadd dX6_refer_34 rfl) <|
  ac_cons (so_aload_n dX6_refer_35 rfl rfl) <|
  ac_cons (so_get (ci := 9) (f := 0) rfl in_X6 (by decide) dX6_refer_36 wd_631 rfl) <|
  ac_cons (so_iload_n dX6_refer_39 rfl rfl) <|
  ac_cons (so_iald dX6_refer_40 rfl) <|
  ac_cons (so_i2l dX6_refer_41 rfl) <|
  ac_cons (so_last dX6_refer_42 rfl) <|
  ac_cons (so_return rfl dX6_refer_43) <| ac_nil
theorem C_X6_refer : ac_Ct yX6_refer M_X6_refer T_X6_refer := ac_meth (by decide +kernel) rfl rfl rfl rfl s_X6_refer
-- X6_fetch
abbrev rm_X6_fetch : Room := { frames := 3, cells := 0, slots := 0, locals := 68 }
abbrev M_X6_fetch : ac_D := (RX6, "fetch", cX6_fetch, 5, some FieldType.int, [], rm_X6_fetch)
theorem tb_X6_fetch : ac_tb RX6 [] := fun q h => (by cases h)
theorem dy_X6_fetch : yX6_fetch.cls ≠ "java/lang/invoke/MethodHandle" ∧ yX6_fetch.cls ≠ "java/lang/invoke/VarHandle" ∧ (parseMethodDescriptor yX6_fetch.desc).map (fun d => d.parameters.length) = some 3 := by decide +kernel
def k_X6_fetch : List (Nat × ac_op) := [(0, op_aload 0 1),
  (1, op_iload 1 2),
  (2, op_iload 2 3),
  (3, op_callV rm_X6_fetch [] 9 T_X6_known rm_X6_known 2 3 6),
  (6, op_if (fun x => x = 0) 18 9),
  (9, op_aload 0 10),
  (10, op_iload 2 11),
  (11, op_iload 3 12),
  (12, op_callV rm_X6_fetch [] 9 T_X6_reachItem rm_X6_reachItem 2 12 15),
  (15, op_if (fun x => ¬ x = 0) 20 18),
  (18, op_push (.int 0) 19),
  (19, op_ireturn rm_X6_fetch),
  (20, op_aload 0 21),
  (21, op_callV rm_X6_fetch [] 9 T_X6_here rm_X6_here 0 21 24),
  (24, op_l (fun x => .int x.toInt32) 25),
  (25, op_istore 4 27),
  (27, op_aload 0 28),
  (28, op_get 9 0 31),
  (31, op_iload 1 32),
  (32, op_iload 4 34),
  (34, op_iast 35),
  (35, op_iload 4 37),
  (37, op_if (fun x => 0 ≤ x) 44 40),
  (40, op_push (.int (-1)) 41),
  (41, op_goto 50),
  (44, op_aload 0 45),
  (45, op_iload 4 47),
  (47, op_callV rm_X6_fetch [] 9 T_X6_sort rm_X6_sort 1 47 50),
  (50, op_ireturn rm_X6_fetch)]
def T_X6_fetch : ac_T := ac_vc k_X6_fetch 5
set_option maxRecDepth 100000 in
set_option maxHeartbeats 4000000 in
theorem s_X6_fetch : ∀ x ∈ k_X6_fetch, ac_So M_X6_fetch (fun _ _ _ => False) x.1 x.2 :=
  ac_cons (so_aload_n dX6_fetch_0 rfl rfl) <|
  ac_cons (so_iload_n dX6_fetch_1 rfl rfl) <|
  ac_cons (so_iload_n dX6_fetch_2 rfl rfl) <|
  ac_cons (so_callV (N := M_X6_known) (ci := 9) C_X6_known rfl ⟨wd_704, wd_25, dy_X6_known, ⟨by decide, by decide⟩, tb_X6_fetch⟩ rfl dX6_fetch_3 wd_701 wd_703 wd_10 rfl) <|
  ac_cons (so_if_eq dX6_fetch_6 (by decide) rfl) <|
  ac_cons (so_aload_n dX6_fetch_9 rfl rfl) <|
  ac_cons (so_iload_n dX6_fetch_10 rfl rfl) <|
  ac_cons (so_iload_n dX6_fetch_11 rfl rfl) <|
  ac_cons (so_callV (N := M_X6_reachItem) (ci := 9) C_X6_reachItem rfl ⟨wd_784, wd_25, dy_X6_reachItem, ⟨by decide, by decide⟩, tb_X6_fetch⟩ rfl dX6_fetch_12 wd_781 wd_783 wd_20 rfl) <|
  ac_cons (so_if_ne dX6_fetch_15 (by decide) rfl) <|
  ac_cons (so_iconst dX6_fetch_18 (by decide +kernel) rfl) <|
  ac_cons (so_ireturn rfl dX6_fetch_19) <|
  ac_cons (so_aload_n dX6_fetch_20 rfl rfl) <|
  ac_cons (so_callV (N := M_X6_here) (ci := 9) C_X6_here rfl ⟨wd_748, wd_25, dy_X6_here, ⟨by decide, by decide⟩, tb_X6_fetch⟩ rfl dX6_fetch_21 wd_745 wd_747 wd_16 rfl) <|
  ac_cons (so_l2i dX6_fetch_24 rfl) <|
  ac_cons (so_istore dX6_fetch_25 rfl) <|
  ac_cons (so_aload_n dX6_fetch_27 rfl rfl) <|
  ac_cons (so_get (ci := 9) (f := 0) rfl in_X6 (by decide) dX6_fetch_28 wd_631 rfl) <|
  ac_cons (so_iload_n dX6_fetch_31 rfl rfl) <|
  ac_cons (so_iload dX6_fetch_32 rfl) <|
  ac_cons (so_iast dX6_fetch_34 rfl) <|
  ac_cons (so_iload dX6_fetch_35 rfl) <|
  ac_cons (so_if_ge dX6_fetch_37 (by decide) rfl) <|
  ac_cons (so_iconst dX6_fetch_40 (by decide +kernel) rfl) <|
  ac_cons (so_goto dX6_fetch_41 (by decide)) <|
  ac_cons (so_aload_n dX6_fetch_44 rfl rfl) <|
  ac_cons (so_iload dX6_fetch_45 rfl) <|
  ac_cons (so_callV (N := M_X6_sort) (ci := 9) C_X6_sort rfl ⟨wd_736, wd_25, dy_X6_sort, ⟨by decide, by decide⟩, tb_X6_fetch⟩ rfl dX6_fetch_47 wd_733 wd_735 wd_13 rfl) <|
  ac_cons (so_ireturn rfl dX6_fetch_50) <| ac_nil
theorem C_X6_fetch : ac_Ct yX6_fetch M_X6_fetch T_X6_fetch := ac_meth (by decide +kernel) rfl rfl rfl rfl s_X6_fetch
-- X6_isRecord
abbrev rm_X6_isRecord : Room := { frames := 1, cells := 0, slots := 0, locals := 22 }
abbrev M_X6_isRecord : ac_D := (RX6, "isRecord", cX6_isRecord, 3, some FieldType.boolean, [], rm_X6_isRecord)
theorem tb_X6_isRecord : ac_tb RX6 [] := fun q h => (by cases h)
theorem dy_X6_isRecord : yX6_isRecord.cls ≠ "java/lang/invoke/MethodHandle" ∧ yX6_isRecord.cls ≠ "java/lang/invoke/VarHandle" ∧ (parseMethodDescriptor yX6_isRecord.desc).map (fun d => d.parameters.length) = some 1 := by decide +kernel
def k_X6_isRecord : List (Nat × ac_op) := [(0, op_aload 0 1),
  (1, op_get 9 0 4),
  (4, op_iload 1 5),
  (5, op_iald 6),
  (6, op_istore 2 7),
  (7, op_aload 0 8),
  (8, op_iload 2 9),
  (9, op_if (fun x => x < 0) 23 12),
  (12, op_aload 0 13),
  (13, op_get 9 1 16),
  (16, op_iload 2 17),
  (17, op_iald 18),
  (18, op_push (.int 10) 20),
  (20, op_icmp (fun x y => ¬ x = y) 27 23),
  (23, op_push (.int 1) 24),
  (24, op_goto 28),
  (27, op_push (.int 0) 28),
  (28, op_push (.int 2) 29),
  (29, op_callV rm_X6_isRecord [] 9 T_X6_good rm_X6_good 2 29 32),
  (32, op_if (fun x => x = 0) 56 35),
  (35, op_aload 0 36),
  (36, op_iload 2 37),
  (37, op_if (fun x => x < 0) 44 40),
  (40, op_push (.int 1) 41),
  (41, op_goto 45),
  (44, op_push (.int 0) 45),
  (45, op_push (.int 3) 46),
  (46, op_callV rm_X6_isRecord [] 9 T_X6_good rm_X6_good 2 46 49),
  (49, op_if (fun x => x = 0) 56 52),
  (52, op_push (.int 1) 53),
  (53, op_goto 57),
  (56, op_push (.int 0) 57),
  (57, op_zreturn rm_X6_isRecord)]
def T_X6_isRecord : ac_T := ac_vc k_X6_isRecord 3
set_option maxRecDepth 100000 in
set_option maxHeartbeats 4000000 in
theorem s_X6_isRecord : ∀ x ∈ k_X6_isRecord, ac_So M_X6_isRecord (fun _ _ _ => False) x.1 x.2 :=
  ac_cons (so_aload_n dX6_isRecord_0 rfl rfl) <|
  ac_cons (so_get (ci := 9) (f := 0) rfl in_X6 (by decide) dX6_isRecord_1 wd_631 rfl) <|
  ac_cons (so_iload_n dX6_isRecord_4 rfl rfl) <|
  ac_cons (so_iald dX6_isRecord_5 rfl) <|
  ac_cons (so_istore_n dX6_isRecord_6 rfl rfl) <|
  ac_cons (so_aload_n dX6_isRecord_7 rfl rfl) <|
  ac_cons (so_iload_n dX6_isRecord_8 rfl rfl) <|
  ac_cons (so_if_lt dX6_isRecord_9 (by decide) rfl) <|
  ac_cons (so_aload_n dX6_isRecord_12 rfl rfl) <|
  ac_cons (so_get (ci := 9) (f := 1) rfl in_X6 (by decide) dX6_isRecord_13 wd_632 rfl) <|
  ac_cons (so_iload_n dX6_isRecord_16 rfl rfl) <|
  ac_cons (so_iald dX6_isRecord_17 rfl) <|
  ac_cons (so_bipush dX6_isRecord_18 (by decide +kernel) rfl) <|
  ac_cons (so_icmp_ne dX6_isRecord_20 (by decide) rfl) <|
  ac_cons (so_iconst dX6_isRecord_23 (by decide +kernel) rfl) <|
  ac_cons (so_goto dX6_isRecord_24 (by decide)) <|
  ac_cons (so_iconst dX6_isRecord_27 (by decide +kernel) rfl) <|
  ac_cons (so_iconst dX6_isRecord_28 (by decide +kernel) rfl) <|
  ac_cons (so_callV (N := M_X6_good) (ci := 9) C_X6_good rfl ⟨wd_683, wd_25, dy_X6_good, ⟨by decide, by decide⟩, tb_X6_isRecord⟩ rfl dX6_isRecord_29 wd_680 wd_682 wd_8 rfl) <|
  ac_cons (so_if_eq dX6_isRecord_32 (by decide) rfl) <|
  ac_cons (so_aload_n dX6_isRecord_35 rfl rfl) <|
  ac_cons (so_iload_n dX6_isRecord_36 rfl rfl) <|
  ac_cons (so_if_lt dX6_isRecord_37 (by decide) rfl) <|
  ac_cons (so_iconst dX6_isRecord_40 (by decide +kernel) rfl) <|
  ac_cons (so_goto dX6_isRecord_41 (by decide)) <|
  ac_cons (so_iconst dX6_isRecord_44 (by decide +kernel) rfl) <|
  ac_cons (so_iconst dX6_isRecord_45 (by decide +kernel) rfl) <|
  ac_cons (so_callV (N := M_X6_good) (ci := 9) C_X6_good rfl ⟨wd_683, wd_25, dy_X6_good, ⟨by decide, by decide⟩, tb_X6_isRecord⟩ rfl dX6_isRecord_46 wd_680 wd_682 wd_8 rfl) <|
  ac_cons (so_if_eq dX6_isRecord_49 (by decide) rfl) <|
  ac_cons (so_iconst dX6_isRecord_52 (by decide +kernel) rfl) <|
  ac_cons (so_goto dX6_isRecord_53 (by decide)) <|
  ac_cons (so_iconst dX6_isRecord_56 (by decide +kernel) rfl) <|
  ac_cons (so_zreturn rfl dX6_isRecord_57) <| ac_nil
theorem C_X6_isRecord : ac_Ct yX6_isRecord M_X6_isRecord T_X6_isRecord := ac_meth (by decide +kernel) rfl rfl rfl rfl s_X6_isRecord
-- X6_link
abbrev rm_X6_link : Room := { frames := 2, cells := 0, slots := 0, locals := 44 }
abbrev M_X6_link : ac_D := (RX6, "link", cX6_link, 4, none, [], rm_X6_link)
theorem tb_X6_link : ac_tb RX6 [] := fun q h => (by cases h)
theorem dy_X6_link : yX6_link.cls ≠ "java/lang/invoke/MethodHandle" ∧ yX6_link.cls ≠ "java/lang/invoke/VarHandle" ∧ (parseMethodDescriptor yX6_link.desc).map (fun d => d.parameters.length) = some 2 := by decide +kernel
def k_X6_link : List (Nat × ac_op) := [(0, op_aload 0 1),
  (1, op_iload 1 2),
  (2, op_iload 2 3),
  (3, op_callV rm_X6_link [] 9 T_X6_known rm_X6_known 2 3 6),
  (6, op_if (fun x => ¬ x = 0) 10 9),
  (9, op_return rm_X6_link),
  (10, op_aload 0 11),
  (11, op_get 9 0 14),
  (14, op_iload 2 15),
  (15, op_iald 16),
  (16, op_istore 3 17),
  (17, op_aload 0 18),
  (18, op_iload 3 19),
  (19, op_if (fun x => x < 0) 33 22),
  (22, op_aload 0 23),
  (23, op_get 9 1 26),
  (26, op_iload 3 27),
  (27, op_iald 28),
  (28, op_push (.int 10) 30),
  (30, op_icmp (fun x y => ¬ x = y) 37 33),
  (33, op_push (.int 1) 34),
  (34, op_goto 38),
  (37, op_push (.int 0) 38),
  (38, op_push (.int 2) 39),
  (39, op_callV rm_X6_link [] 9 T_X6_good rm_X6_good 2 39 42),
  (42, op_if (fun x => x = 0) 53 45),
  (45, op_aload 0 46),
  (46, op_iload 1 47),
  (47, op_callV rm_X6_link [] 9 T_X6_isRecord rm_X6_isRecord 1 47 50),
  (50, op_if (fun x => ¬ x = 0) 54 53),
  (53, op_return rm_X6_link),
  (54, op_aload 0 55),
  (55, op_get 9 6 58),
  (58, op_push (.int 24) 60),
  (60, op_aload 0 61),
  (61, op_get 9 0 64),
  (64, op_iload 1 65),
  (65, op_iald 66),
  (66, op_ii (fun x y => x * y) 67),
  (67, op_push (.int 1) 68),
  (68, op_ii (fun x y => x + y) 69),
  (69, op_iload 3 70),
  (70, op_i (fun x => .long x.toInt64) 71),
  (71, op_last 72),
  (72, op_return rm_X6_link)]
def T_X6_link : ac_T := ac_vc k_X6_link 4
set_option maxRecDepth 100000 in
set_option maxHeartbeats 4000000 in
theorem s_X6_link : ∀ x ∈ k_X6_link, ac_So M_X6_link (fun _ _ _ => False) x.1 x.2 :=
  ac_cons (so_aload_n dX6_link_0 rfl rfl) <|
  ac_cons (so_iload_n dX6_link_1 rfl rfl) <|
  ac_cons (so_iload_n dX6_link_2 rfl rfl) <|
  ac_cons (so_callV (N := M_X6_known) (ci := 9) C_X6_known rfl ⟨wd_704, wd_25, dy_X6_known, ⟨by decide, by decide⟩, tb_X6_link⟩ rfl dX6_link_3 wd_701 wd_703 wd_10 rfl) <|
  ac_cons (so_if_ne dX6_link_6 (by decide) rfl) <|
  ac_cons (so_return rfl dX6_link_9) <|
  ac_cons (so_aload_n dX6_link_10 rfl rfl) <|
  ac_cons (so_get (ci := 9) (f := 0) rfl in_X6 (by decide) dX6_link_11 wd_631 rfl) <|
  ac_cons (so_iload_n dX6_link_14 rfl rfl) <|
  ac_cons (so_iald dX6_link_15 rfl) <|
  ac_cons (so_istore_n dX6_link_16 rfl rfl) <|
  ac_cons (so_aload_n dX6_link_17 rfl rfl) <|
  ac_cons (so_iload_n dX6_link_18 rfl rfl) <|
  ac_cons (so_if_lt dX6_link_19 (by decide) rfl) <|
  ac_cons (so_aload_n dX6_link_22 rfl rfl) <|
  ac_cons (so_get (ci := 9) (f := 1) rfl in_X6 (by decide) dX6_link_23 wd_632 rfl) <|
  ac_cons (so_iload_n dX6_link_26 rfl rfl) <|
  ac_cons (so_iald dX6_link_27 rfl) <|
  ac_cons (so_bipush dX6_link_28 (by decide +kernel) rfl) <|
  ac_cons (so_icmp_ne dX6_link_30 (by decide) rfl) <|
  ac_cons (so_iconst dX6_link_33 (by decide +kernel) rfl) <|
  ac_cons (so_goto dX6_link_34 (by decide)) <|
  ac_cons (so_iconst dX6_link_37 (by decide +kernel) rfl) <|
  ac_cons (so_iconst dX6_link_38 (by decide +kernel) rfl) <|
  ac_cons (so_callV (N := M_X6_good) (ci := 9) C_X6_good rfl ⟨wd_683, wd_25, dy_X6_good, ⟨by decide, by decide⟩, tb_X6_link⟩ rfl dX6_link_39 wd_680 wd_682 wd_8 rfl) <|
  ac_cons (so_if_eq dX6_link_42 (by decide) rfl) <|
  ac_cons (so_aload_n dX6_link_45 rfl rfl) <|
  ac_cons (so_iload_n dX6_link_46 rfl rfl) <|
  ac_cons (so_callV (N := M_X6_isRecord) (ci := 9) C_X6_isRecord rfl ⟨wd_796, wd_25, dy_X6_isRecord, ⟨by decide, by decide⟩, tb_X6_link⟩ rfl dX6_link_47 wd_793 wd_795 wd_21 rfl) <|
  ac_cons (so_if_ne dX6_link_50 (by decide) rfl) <|
  ac_cons (so_return rfl dX6_link_53) <|
  ac_cons (so_aload_n dX6_link_54 rfl rfl) <|
  ac_cons (so_get (ci := 9) (f := 6) rfl in_X6 (by decide) dX6_link_55 wd_637 rfl) <|
  ac_cons (so_bipush dX6_link_58 (by decide +kernel) rfl) <|
  ac_cons (so_aload_n dX6_link_60 rfl rfl) <|
  ac_cons (so_get (ci := 9) (f := 0) rfl in_X6 (by decide) dX6_link_61 wd_631 rfl) <|
  ac_cons (so_iload_n dX6_link_64 rfl rfl) <|
  ac_cons (so_iald dX6_link_65 rfl) <|
  ac_cons (so_imul dX6_link_66 rfl) <|
  ac_cons (so_iconst dX6_link_67 (by decide +kernel) rfl) <|
  ac_cons (so_iadd dX6_link_68 rfl) <|
  ac_cons (so_iload_n dX6_link_69 rfl rfl) <|
  ac_cons (so_i2l dX6_link_70 rfl) <|
  ac_cons (so_last dX6_link_71 rfl) <|
  ac_cons (so_return rfl dX6_link_72) <| ac_nil
theorem C_X6_link : ac_Ct yX6_link M_X6_link T_X6_link := ac_meth (by decide +kernel) rfl rfl rfl rfl s_X6_link
-- X6_follow
abbrev rm_X6_follow : Room := { frames := 2, cells := 0, slots := 0, locals := 44 }
abbrev M_X6_follow : ac_D := (RX6, "follow", cX6_follow, 3, some FieldType.boolean, [], rm_X6_follow)
theorem tb_X6_follow : ac_tb RX6 [] := fun q h => (by cases h)
theorem dy_X6_follow : yX6_follow.cls ≠ "java/lang/invoke/MethodHandle" ∧ yX6_follow.cls ≠ "java/lang/invoke/VarHandle" ∧ (parseMethodDescriptor yX6_follow.desc).map (fun d => d.parameters.length) = some 2 := by decide +kernel
def k_X6_follow : List (Nat × ac_op) := [(0, op_aload 0 1),
  (1, op_iload 1 2),
  (2, op_iload 2 3),
  (3, op_callV rm_X6_follow [] 9 T_X6_known rm_X6_known 2 3 6),
  (6, op_if (fun x => x = 0) 17 9),
  (9, op_aload 0 10),
  (10, op_iload 2 11),
  (11, op_callV rm_X6_follow [] 9 T_X6_isRecord rm_X6_isRecord 1 11 14),
  (14, op_if (fun x => ¬ x = 0) 19 17),
  (17, op_push (.int 0) 18),
  (18, op_zreturn rm_X6_follow),
  (19, op_aload 0 20),
  (20, op_get 9 0 23),
  (23, op_iload 1 24),
  (24, op_aload 0 25),
  (25, op_get 9 6 28),
  (28, op_push (.int 24) 30),
  (30, op_aload 0 31),
  (31, op_get 9 0 34),
  (34, op_iload 2 35),
  (35, op_iald 36),
  (36, op_ii (fun x y => x * y) 37),
  (37, op_push (.int 1) 38),
  (38, op_ii (fun x y => x + y) 39),
  (39, op_lald 40),
  (40, op_l (fun x => .int x.toInt32) 41),
  (41, op_iast 42),
  (42, op_aload 0 43),
  (43, op_get 9 0 46),
  (46, op_iload 1 47),
  (47, op_iald 48),
  (48, op_if (fun x => 0 ≤ x) 55 51),
  (51, op_push (.int 1) 52),
  (52, op_goto 56),
  (55, op_push (.int 0) 56),
  (56, op_zreturn rm_X6_follow)]
def T_X6_follow : ac_T := ac_vc k_X6_follow 3
set_option maxRecDepth 100000 in
set_option maxHeartbeats 4000000 in
theorem s_X6_follow : ∀ x ∈ k_X6_follow, ac_So M_X6_follow (fun _ _ _ => False) x.1 x.2 :=
  ac_cons (so_aload_n dX6_follow_0 rfl rfl) <|
  ac_cons (so_iload_n dX6_follow_1 rfl rfl) <|
  ac_cons (so_iload_n dX6_follow_2 rfl rfl) <|
  ac_cons (so_callV (N := M_X6_known) (ci := 9) C_X6_known rfl ⟨wd_704, wd_25, dy_X6_known, ⟨by decide, by decide⟩, tb_X6_follow⟩ rfl dX6_follow_3 wd_701 wd_703 wd_10 rfl) <|
  ac_cons (so_if_eq dX6_follow_6 (by decide) rfl) <|
  ac_cons (so_aload_n dX6_follow_9 rfl rfl) <|
  ac_cons (so_iload_n dX6_follow_10 rfl rfl) <|
  ac_cons (so_callV (N := M_X6_isRecord) (ci := 9) C_X6_isRecord rfl ⟨wd_796, wd_25, dy_X6_isRecord, ⟨by decide, by decide⟩, tb_X6_follow⟩ rfl dX6_follow_11 wd_793 wd_795 wd_21 rfl) <|
  ac_cons (so_if_ne dX6_follow_14 (by decide) rfl) <|
  ac_cons (so_iconst dX6_follow_17 (by decide +kernel) rfl) <|
  ac_cons (so_zreturn rfl dX6_follow_18) <|
  ac_cons (so_aload_n dX6_follow_19 rfl rfl) <|
  ac_cons (so_get (ci := 9) (f := 0) rfl in_X6 (by decide) dX6_follow_20 wd_631 rfl) <|
  ac_cons (so_iload_n dX6_follow_23 rfl rfl) <|
  ac_cons (so_aload_n dX6_follow_24 rfl rfl) <|
  ac_cons (so_get (ci := 9) (f := 6) rfl in_X6 (by decide) dX6_follow_25 wd_637 rfl) <|
  ac_cons (so_bipush dX6_follow_28 (by decide +kernel) rfl) <|
  ac_cons (so_aload_n dX6_follow_30 rfl rfl) <|
  ac_cons (so_get (ci := 9) (f := 0) rfl in_X6 (by decide) dX6_follow_31 wd_631 rfl) <|
  ac_cons (so_iload_n dX6_follow_34 rfl rfl) <|
  ac_cons (so_iald dX6_follow_35 rfl) <|
  ac_cons (so_imul dX6_follow_36 rfl) <|
  ac_cons (so_iconst dX6_follow_37 (by decide +kernel) rfl) <|
  ac_cons (so_iadd dX6_follow_38 rfl) <|
  ac_cons (so_lald dX6_follow_39 rfl) <|
  ac_cons (so_l2i dX6_follow_40 rfl) <|
  ac_cons (so_iast dX6_follow_41 rfl) <|
  ac_cons (so_aload_n dX6_follow_42 rfl rfl) <|
  ac_cons (so_get (ci := 9) (f := 0) rfl in_X6 (by decide) dX6_follow_43 wd_631 rfl) <|
  ac_cons (so_iload_n dX6_follow_46 rfl rfl) <|
  ac_cons (so_iald dX6_follow_47 rfl) <|
  ac_cons (so_if_ge dX6_follow_48 (by decide) rfl) <|
  ac_cons (so_iconst dX6_follow_51 (by decide +kernel) rfl) <|
  ac_cons (so_goto dX6_follow_52 (by decide)) <|
  ac_cons (so_iconst dX6_follow_55 (by decide +kernel) rfl) <|
  ac_cons (so_zreturn rfl dX6_follow_56) <| ac_nil
theorem C_X6_follow : ac_Ct yX6_follow M_X6_follow T_X6_follow := ac_meth (by decide +kernel) rfl rfl rfl rfl s_X6_follow
-- X6_exchange
abbrev rm_X6_exchange : Room := { frames := 2, cells := 0, slots := 0, locals := 44 }
abbrev M_X6_exchange : ac_D := (RX6, "exchange", cX6_exchange, 7, some FieldType.long, [], rm_X6_exchange)
theorem tb_X6_exchange : ac_tb RX6 [] := fun q h => (by cases h)
theorem dy_X6_exchange : yX6_exchange.cls ≠ "java/lang/invoke/MethodHandle" ∧ yX6_exchange.cls ≠ "java/lang/invoke/VarHandle" ∧ (parseMethodDescriptor yX6_exchange.desc).map (fun d => d.parameters.length) = some 2 := by decide +kernel
def k_X6_exchange : List (Nat × ac_op) := [(0, op_aload 0 1),
  (1, op_iload 1 2),
  (2, op_push (.int 0) 3),
  (3, op_callV rm_X6_exchange [] 9 T_X6_known rm_X6_known 2 3 6),
  (6, op_if (fun x => x = 0) 17 9),
  (9, op_aload 0 10),
  (10, op_iload 1 11),
  (11, op_callV rm_X6_exchange [] 9 T_X6_isRecord rm_X6_isRecord 1 11 14),
  (14, op_if (fun x => ¬ x = 0) 19 17),
  (17, op_push (.long 0) 18),
  (18, op_lreturn rm_X6_exchange),
  (19, op_push (.int 24) 21),
  (21, op_aload 0 22),
  (22, op_get 9 0 25),
  (25, op_iload 1 26),
  (26, op_iald 27),
  (27, op_ii (fun x y => x * y) 28),
  (28, op_istore 4 30),
  (30, op_aload 0 31),
  (31, op_get 9 6 34),
  (34, op_iload 4 36),
  (36, op_lald 37),
  (37, op_lstore 5 39),
  (39, op_aload 0 40),
  (40, op_get 9 6 43),
  (43, op_iload 4 45),
  (45, op_lload 2 46),
  (46, op_last 47),
  (47, op_lload 5 49),
  (49, op_lreturn rm_X6_exchange)]
def T_X6_exchange : ac_T := ac_vc k_X6_exchange 7
set_option maxRecDepth 100000 in
set_option maxHeartbeats 4000000 in
theorem s_X6_exchange : ∀ x ∈ k_X6_exchange, ac_So M_X6_exchange (fun _ _ _ => False) x.1 x.2 :=
  ac_cons (so_aload_n dX6_exchange_0 rfl rfl) <|
  ac_cons (so_iload_n dX6_exchange_1 rfl rfl) <|
  ac_cons (so_iconst dX6_exchange_2 (by decide +kernel) rfl) <|
  ac_cons (so_callV (N := M_X6_known) (ci := 9) C_X6_known rfl ⟨wd_704, wd_25, dy_X6_known, ⟨by decide, by decide⟩, tb_X6_exchange⟩ rfl dX6_exchange_3 wd_701 wd_703 wd_10 rfl) <|
  ac_cons (so_if_eq dX6_exchange_6 (by decide) rfl) <|
  ac_cons (so_aload_n dX6_exchange_9 rfl rfl) <|
  ac_cons (so_iload_n dX6_exchange_10 rfl rfl) <|
  ac_cons (so_callV (N := M_X6_isRecord) (ci := 9) C_X6_isRecord rfl ⟨wd_796, wd_25, dy_X6_isRecord, ⟨by decide, by decide⟩, tb_X6_exchange⟩ rfl dX6_exchange_11 wd_793 wd_795 wd_21 rfl) <|
  ac_cons (so_if_ne dX6_exchange_14 (by decide) rfl) <|
  ac_cons (so_lconst dX6_exchange_17 (by decide +kernel) rfl) <|
  ac_cons (so_lreturn rfl dX6_exchange_18) <|
  ac_cons (so_bipush dX6_exchange_19 (by decide +kernel) rfl) <|
  ac_cons (so_aload_n dX6_exchange_21 rfl rfl) <|
  ac_cons (so_get (ci := 9) (f := 0) rfl in_X6 (by decide) dX6_exchange_22 wd_631 rfl) <|
  ac_cons (so_iload_n dX6_exchange_25 rfl rfl) <|
  ac_cons (so_iald dX6_exchange_26 rfl) <|
  ac_cons (so_imul dX6_exchange_27 rfl) <|
  ac_cons (so_istore dX6_exchange_28 rfl) <|
  ac_cons (so_aload_n dX6_exchange_30 rfl rfl) <|
  ac_cons (so_get (ci := 9) (f := 6) rfl in_X6 (by decide) dX6_exchange_31 wd_637 rfl) <|
  ac_cons (so_iload dX6_exchange_34 rfl) <|
  ac_cons (so_lald dX6_exchange_36 rfl) <|
  ac_cons (so_lstore dX6_exchange_37 rfl) <|
  ac_cons (so_aload_n dX6_exchange_39 rfl rfl) <|
  ac_cons (so_get (ci := 9) (f := 6) rfl in_X6 (by decide) dX6_exchange_40 wd_637 rfl) <|
  ac_cons (so_iload dX6_exchange_43 rfl) <|
  ac_cons (so_lload_n dX6_exchange_45 rfl rfl) <|
  ac_cons (so_last dX6_exchange_46 rfl) <|
  ac_cons (so_lload dX6_exchange_47 rfl) <|
  ac_cons (so_lreturn rfl dX6_exchange_49) <| ac_nil
theorem C_X6_exchange : ac_Ct yX6_exchange M_X6_exchange T_X6_exchange := ac_meth (by decide +kernel) rfl rfl rfl rfl s_X6_exchange
-- X6_total
abbrev rm_X6_total : Room := { frames := 2, cells := 0, slots := 0, locals := 44 }
abbrev M_X6_total : ac_D := (RX6, "total", cX6_total, 6, some FieldType.long, [], rm_X6_total)
theorem tb_X6_total : ac_tb RX6 [] := fun q h => (by cases h)
theorem dy_X6_total : yX6_total.cls ≠ "java/lang/invoke/MethodHandle" ∧ yX6_total.cls ≠ "java/lang/invoke/VarHandle" ∧ (parseMethodDescriptor yX6_total.desc).map (fun d => d.parameters.length) = some 1 := by decide +kernel
def k_X6_total : List (Nat × ac_op) := [(0, op_aload 0 1),
  (1, op_iload 1 2),
  (2, op_push (.int 0) 3),
  (3, op_callV rm_X6_total [] 9 T_X6_known rm_X6_known 2 3 6),
  (6, op_if (fun x => x = 0) 17 9),
  (9, op_aload 0 10),
  (10, op_iload 1 11),
  (11, op_callV rm_X6_total [] 9 T_X6_isRecord rm_X6_isRecord 1 11 14),
  (14, op_if (fun x => ¬ x = 0) 19 17),
  (17, op_push (.long 0) 18),
  (18, op_lreturn rm_X6_total),
  (19, op_push (.long 0) 20),
  (20, op_lstore 2 21),
  (21, op_aload 0 22),
  (22, op_get 9 0 25),
  (25, op_iload 1 26),
  (26, op_iald 27),
  (27, op_istore 4 29),
  (29, op_push (.int 0) 30),
  (30, op_istore 5 32),
  (32, op_iload 5 34),
  (34, op_push (.int 20) 36),
  (36, op_icmp (fun x y => y ≤ x) 78 39),
  (39, op_iload 4 41),
  (41, op_if (fun x => x < 0) 78 44),
  (44, op_lload 2 45),
  (45, op_aload 0 46),
  (46, op_get 9 6 49),
  (49, op_push (.int 24) 51),
  (51, op_iload 4 53),
  (53, op_ii (fun x y => x * y) 54),
  (54, op_lald 55),
  (55, op_ll (fun x y => x + y) 56),
  (56, op_lstore 2 57),
  (57, op_aload 0 58),
  (58, op_get 9 6 61),
  (61, op_push (.int 24) 63),
  (63, op_iload 4 65),
  (65, op_ii (fun x y => x * y) 66),
  (66, op_push (.int 1) 67),
  (67, op_ii (fun x y => x + y) 68),
  (68, op_lald 69),
  (69, op_l (fun x => .int x.toInt32) 70),
  (70, op_istore 4 72),
  (72, op_iinc 5 1 75),
  (75, op_goto 32),
  (78, op_lload 2 79),
  (79, op_lreturn rm_X6_total)]
def T_X6_total : ac_T := ac_vc k_X6_total 6
set_option maxRecDepth 100000 in
set_option maxHeartbeats 4000000 in
theorem s_X6_total : ∀ x ∈ k_X6_total, ac_So M_X6_total (fun _ _ _ => False) x.1 x.2 :=
  ac_cons (so_aload_n dX6_total_0 rfl rfl) <|
  ac_cons (so_iload_n dX6_total_1 rfl rfl) <|
  ac_cons (so_iconst dX6_total_2 (by decide +kernel) rfl) <|
  ac_cons (so_callV (N := M_X6_known) (ci := 9) C_X6_known rfl ⟨wd_704, wd_25, dy_X6_known, ⟨by decide, by decide⟩, tb_X6_total⟩ rfl dX6_total_3 wd_701 wd_703 wd_10 rfl) <|
  ac_cons (so_if_eq dX6_total_6 (by decide) rfl) <|
  ac_cons (so_aload_n dX6_total_9 rfl rfl) <|
  ac_cons (so_iload_n dX6_total_10 rfl rfl) <|
  ac_cons (so_callV (N := M_X6_isRecord) (ci := 9) C_X6_isRecord rfl ⟨wd_796, wd_25, dy_X6_isRecord, ⟨by decide, by decide⟩, tb_X6_total⟩ rfl dX6_total_11 wd_793 wd_795 wd_21 rfl) <|
  ac_cons (so_if_ne dX6_total_14 (by decide) rfl) <|
  ac_cons (so_lconst dX6_total_17 (by decide +kernel) rfl) <|
  ac_cons (so_lreturn rfl dX6_total_18) <|
  ac_cons (so_lconst dX6_total_19 (by decide +kernel) rfl) <|
  ac_cons (so_lstore_n dX6_total_20 rfl rfl) <|
  ac_cons (so_aload_n dX6_total_21 rfl rfl) <|
  ac_cons (so_get (ci := 9) (f := 0) rfl in_X6 (by decide) dX6_total_22 wd_631 rfl) <|
  ac_cons (so_iload_n dX6_total_25 rfl rfl) <|
  ac_cons (so_iald dX6_total_26 rfl) <|
  ac_cons (so_istore dX6_total_27 rfl) <|
  ac_cons (so_iconst dX6_total_29 (by decide +kernel) rfl) <|
  ac_cons (so_istore dX6_total_30 rfl) <|
  ac_cons (so_iload dX6_total_32 rfl) <|
  ac_cons (so_bipush dX6_total_34 (by decide +kernel) rfl) <|
  ac_cons (so_icmp_ge dX6_total_36 (by decide) rfl) <|
  ac_cons (so_iload dX6_total_39 rfl) <|
  ac_cons (so_if_lt dX6_total_41 (by decide) rfl) <|
  ac_cons (so_lload_n dX6_total_44 rfl rfl) <|
  ac_cons (so_aload_n dX6_total_45 rfl rfl) <|
  ac_cons (so_get (ci := 9) (f := 6) rfl in_X6 (by decide) dX6_total_46 wd_637 rfl) <|
  ac_cons (so_bipush dX6_total_49 (by decide +kernel) rfl) <|
  ac_cons (so_iload dX6_total_51 rfl) <|
  ac_cons (so_imul dX6_total_53 rfl) <|
  ac_cons (so_lald dX6_total_54 rfl) <|
  ac_cons (so_ladd dX6_total_55 rfl) <|
  ac_cons (so_lstore_n dX6_total_56 rfl rfl) <|
  ac_cons (so_aload_n dX6_total_57 rfl rfl) <|
  ac_cons (so_get (ci := 9) (f := 6) rfl in_X6 (by decide) dX6_total_58 wd_637 rfl) <|
  ac_cons (so_bipush dX6_total_61 (by decide +kernel) rfl) <|
  ac_cons (so_iload dX6_total_63 rfl) <|
  ac_cons (so_imul dX6_total_65 rfl) <|
  ac_cons (so_iconst dX6_total_66 (by decide +kernel) rfl) <|
  ac_cons (so_iadd dX6_total_67 rfl) <|
  ac_cons (so_lald dX6_total_68 rfl) <|
  ac_cons (so_l2i dX6_total_69 rfl) <|
  ac_cons (so_istore dX6_total_70 rfl) <|
  ac_cons (so_iinc dX6_total_72 (by decide +kernel) rfl) <|
  ac_cons (so_goto dX6_total_75 (by decide)) <|
  ac_cons (so_lload_n dX6_total_78 rfl rfl) <|
  ac_cons (so_lreturn rfl dX6_total_79) <| ac_nil
theorem C_X6_total : ac_Ct yX6_total M_X6_total T_X6_total := ac_meth (by decide +kernel) rfl rfl rfl rfl s_X6_total
-- X6_both
abbrev rm_X6_both : Room := { frames := 2, cells := 0, slots := 0, locals := 43 }
abbrev M_X6_both : ac_D := (RX6, "both", cX6_both, 6, some FieldType.boolean, [], rm_X6_both)
theorem tb_X6_both : ac_tb RX6 [] := fun q h => (by cases h)
theorem dy_X6_both : yX6_both.cls ≠ "java/lang/invoke/MethodHandle" ∧ yX6_both.cls ≠ "java/lang/invoke/VarHandle" ∧ (parseMethodDescriptor yX6_both.desc).map (fun d => d.parameters.length) = some 3 := by decide +kernel
def k_X6_both : List (Nat × ac_op) := [(0, op_aload 0 1),
  (1, op_get 9 0 4),
  (4, op_iload 1 5),
  (5, op_iald 6),
  (6, op_istore 4 8),
  (8, op_aload 0 9),
  (9, op_get 9 0 12),
  (12, op_iload 2 13),
  (13, op_iald 14),
  (14, op_istore 5 16),
  (16, op_aload 0 17),
  (17, op_iload 4 19),
  (19, op_if (fun x => x < 0) 31 22),
  (22, op_iload 5 24),
  (24, op_if (fun x => x < 0) 31 27),
  (27, op_push (.int 1) 28),
  (28, op_goto 32),
  (31, op_push (.int 0) 32),
  (32, op_push (.int 2) 33),
  (33, op_callV rm_X6_both [] 9 T_X6_good rm_X6_good 2 33 36),
  (36, op_if (fun x => x = 0) 76 39),
  (39, op_aload 0 40),
  (40, op_aload 0 41),
  (41, op_iload 4 43),
  (43, op_callV rm_X6_both [] 9 T_X6_sort rm_X6_sort 1 43 46),
  (46, op_iload 3 47),
  (47, op_icmp (fun x y => y < x) 64 50),
  (50, op_aload 0 51),
  (51, op_iload 5 53),
  (53, op_callV rm_X6_both [] 9 T_X6_sort rm_X6_sort 1 53 56),
  (56, op_iload 3 57),
  (57, op_icmp (fun x y => y < x) 64 60),
  (60, op_push (.int 1) 61),
  (61, op_goto 65),
  (64, op_push (.int 0) 65),
  (65, op_push (.int 3) 66),
  (66, op_callV rm_X6_both [] 9 T_X6_good rm_X6_good 2 66 69),
  (69, op_if (fun x => x = 0) 76 72),
  (72, op_push (.int 1) 73),
  (73, op_goto 77),
  (76, op_push (.int 0) 77),
  (77, op_zreturn rm_X6_both)]
def T_X6_both : ac_T := ac_vc k_X6_both 6
set_option maxRecDepth 100000 in
set_option maxHeartbeats 4000000 in
theorem s_X6_both : ∀ x ∈ k_X6_both, ac_So M_X6_both (fun _ _ _ => False) x.1 x.2 :=
  ac_cons (so_aload_n dX6_both_0 rfl rfl) <|
  ac_cons (so_get (ci := 9) (f := 0) rfl in_X6 (by decide) dX6_both_1 wd_631 rfl) <|
  ac_cons (so_iload_n dX6_both_4 rfl rfl) <|
  ac_cons (so_iald dX6_both_5 rfl) <|
  ac_cons (so_istore dX6_both_6 rfl) <|
  ac_cons (so_aload_n dX6_both_8 rfl rfl) <|
  ac_cons (so_get (ci := 9) (f := 0) rfl in_X6 (by decide) dX6_both_9 wd_631 rfl) <|
  ac_cons (so_iload_n dX6_both_12 rfl rfl) <|
  ac_cons (so_iald dX6_both_13 rfl) <|
  ac_cons (so_istore dX6_both_14 rfl) <|
  ac_cons (so_aload_n dX6_both_16 rfl rfl) <|
  ac_cons (so_iload dX6_both_17 rfl) <|
  ac_cons (so_if_lt dX6_both_19 (by decide) rfl) <|
  ac_cons (so_iload dX6_both_22 rfl) <|
  ac_cons (so_if_lt dX6_both_24 (by decide) rfl) <|
  ac_cons (so_iconst dX6_both_27 (by decide +kernel) rfl) <|
  ac_cons (so_goto dX6_both_28 (by decide)) <|
  ac_cons (so_iconst dX6_both_31 (by decide +kernel) rfl) <|
  ac_cons (so_iconst dX6_both_32 (by decide +kernel) rfl) <|
  ac_cons (so_callV (N := M_X6_good) (ci := 9) C_X6_good rfl ⟨wd_683, wd_25, dy_X6_good, ⟨by decide, by decide⟩, tb_X6_both⟩ rfl dX6_both_33 wd_680 wd_682 wd_8 rfl) <|
  ac_cons (so_if_eq dX6_both_36 (by decide) rfl) <|
  ac_cons (so_aload_n dX6_both_39 rfl rfl) <|
  ac_cons (so_aload_n dX6_both_40 rfl rfl) <|
  ac_cons (so_iload dX6_both_41 rfl) <|
  ac_cons (so_callV (N := M_X6_sort) (ci := 9) C_X6_sort rfl ⟨wd_736, wd_25, dy_X6_sort, ⟨by decide, by decide⟩, tb_X6_both⟩ rfl dX6_both_43 wd_733 wd_735 wd_13 rfl) <|
  ac_cons (so_iload_n dX6_both_46 rfl rfl) <|
  ac_cons (so_icmp_gt dX6_both_47 (by decide) rfl) <|
  ac_cons (so_aload_n dX6_both_50 rfl rfl) <|
  ac_cons (so_iload dX6_both_51 rfl) <|
  ac_cons (so_callV (N := M_X6_sort) (ci := 9) C_X6_sort rfl ⟨wd_736, wd_25, dy_X6_sort, ⟨by decide, by decide⟩, tb_X6_both⟩ rfl dX6_both_53 wd_733 wd_735 wd_13 rfl) <|
  ac_cons (so_iload_n dX6_both_56 rfl rfl) <|
  ac_cons (so_icmp_gt dX6_both_57 (by decide) rfl) <|
  ac_cons (so_iconst dX6_both_60 (by decide +kernel) rfl) <|
  ac_cons (so_goto dX6_both_61 (by decide)) <|
  ac_cons (so_iconst dX6_both_64 (by decide +kernel) rfl) <|
  ac_cons (so_iconst dX6_both_65 (by decide +kernel) rfl) <|
  ac_cons (so_callV (N := M_X6_good) (ci := 9) C_X6_good rfl ⟨wd_683, wd_25, dy_X6_good, ⟨by decide, by decide⟩, tb_X6_both⟩ rfl dX6_both_66 wd_680 wd_682 wd_8 rfl) <|
  ac_cons (so_if_eq dX6_both_69 (by decide) rfl) <|
  ac_cons (so_iconst dX6_both_72 (by decide +kernel) rfl) <|
  ac_cons (so_goto dX6_both_73 (by decide)) <|
  ac_cons (so_iconst dX6_both_76 (by decide +kernel) rfl) <|
  ac_cons (so_zreturn rfl dX6_both_77) <| ac_nil
theorem C_X6_both : ac_Ct yX6_both M_X6_both T_X6_both := ac_meth (by decide +kernel) rfl rfl rfl rfl s_X6_both
-- X6_reckon
abbrev rm_X6_reckon : Room := { frames := 0, cells := 0, slots := 0, locals := 0 }
abbrev M_X6_reckon : ac_D := (RX6, "reckon", cX6_reckon, 5, some FieldType.long, [], rm_X6_reckon)
theorem tb_X6_reckon : ac_tb RX6 [] := fun q h => (by cases h)
theorem dy_X6_reckon : yX6_reckon.cls ≠ "java/lang/invoke/MethodHandle" ∧ yX6_reckon.cls ≠ "java/lang/invoke/VarHandle" ∧ (parseMethodDescriptor yX6_reckon.desc).map (fun d => d.parameters.length) = some 3 := by decide +kernel
def k_X6_reckon : List (Nat × ac_op) := [(0, op_iload 0 1),
  (1, op_if (fun x => ¬ x = 0) 8 4),
  (4, op_lload 1 5),
  (5, op_lload 3 6),
  (6, op_ll (fun x y => x + y) 7),
  (7, op_lreturn rm_X6_reckon),
  (8, op_iload 0 9),
  (9, op_push (.int 1) 10),
  (10, op_icmp (fun x y => ¬ x = y) 17 13),
  (13, op_lload 1 14),
  (14, op_lload 3 15),
  (15, op_ll (fun x y => x - y) 16),
  (16, op_lreturn rm_X6_reckon),
  (17, op_iload 0 18),
  (18, op_push (.int 2) 19),
  (19, op_icmp (fun x y => ¬ x = y) 26 22),
  (22, op_lload 1 23),
  (23, op_lload 3 24),
  (24, op_ll (fun x y => x * y) 25),
  (25, op_lreturn rm_X6_reckon),
  (26, op_lload 3 27),
  (27, op_push (.long (-1)) 30),
  (30, op_lcmp 31),
  (31, op_if (fun x => ¬ x = 0) 47 34),
  (34, op_iload 0 35),
  (35, op_push (.int 3) 36),
  (36, op_icmp (fun x y => ¬ x = y) 45 39),
  (39, op_push (.long 0) 40),
  (40, op_lload 1 41),
  (41, op_ll (fun x y => x - y) 42),
  (42, op_goto 46),
  (45, op_push (.long 0) 46),
  (46, op_lreturn rm_X6_reckon),
  (47, op_iload 0 48),
  (48, op_push (.int 3) 49),
  (49, op_icmp (fun x y => ¬ x = y) 58 52),
  (52, op_lload 1 53),
  (53, op_lload 3 54),
  (54, op_ldiv 55),
  (55, op_goto 61),
  (58, op_lload 1 59),
  (59, op_lload 3 60),
  (60, op_lrem 61),
  (61, op_lreturn rm_X6_reckon)]
def T_X6_reckon : ac_T := ac_vc k_X6_reckon 5
set_option maxRecDepth 100000 in
set_option maxHeartbeats 4000000 in
theorem s_X6_reckon : ∀ x ∈ k_X6_reckon, ac_So M_X6_reckon (fun _ _ _ => False) x.1 x.2 :=
  ac_cons (so_iload_n dX6_reckon_0 rfl rfl) <|
  ac_cons (so_if_ne dX6_reckon_1 (by decide) rfl) <|
  ac_cons (so_lload_n dX6_reckon_4 rfl rfl) <|
  ac_cons (so_lload_n dX6_reckon_5 rfl rfl) <|
  ac_cons (so_ladd dX6_reckon_6 rfl) <|
  ac_cons (so_lreturn rfl dX6_reckon_7) <|
  ac_cons (so_iload_n dX6_reckon_8 rfl rfl) <|
  ac_cons (so_iconst dX6_reckon_9 (by decide +kernel) rfl) <|
  ac_cons (so_icmp_ne dX6_reckon_10 (by decide) rfl) <|
  ac_cons (so_lload_n dX6_reckon_13 rfl rfl) <|
  ac_cons (so_lload_n dX6_reckon_14 rfl rfl) <|
  ac_cons (so_lsub dX6_reckon_15 rfl) <|
  ac_cons (so_lreturn rfl dX6_reckon_16) <|
  ac_cons (so_iload_n dX6_reckon_17 rfl rfl) <|
  ac_cons (so_iconst dX6_reckon_18 (by decide +kernel) rfl) <|
  ac_cons (so_icmp_ne dX6_reckon_19 (by decide) rfl) <|
  ac_cons (so_lload_n dX6_reckon_22 rfl rfl) <|
  ac_cons (so_lload_n dX6_reckon_23 rfl rfl) <|
  ac_cons (so_lmul dX6_reckon_24 rfl) <|
  ac_cons (so_lreturn rfl dX6_reckon_25) <|
  ac_cons (so_lload_n dX6_reckon_26 rfl rfl) <|
  ac_cons (so_ldc2 dX6_reckon_27 wd_688 rfl) <|
  ac_cons (so_lcmp dX6_reckon_30 rfl) <|
  ac_cons (so_if_ne dX6_reckon_31 (by decide) rfl) <|
  ac_cons (so_iload_n dX6_reckon_34 rfl rfl) <|
  ac_cons (so_iconst dX6_reckon_35 (by decide +kernel) rfl) <|
  ac_cons (so_icmp_ne dX6_reckon_36 (by decide) rfl) <|
  ac_cons (so_lconst dX6_reckon_39 (by decide +kernel) rfl) <|
  ac_cons (so_lload_n dX6_reckon_40 rfl rfl) <|
  ac_cons (so_lsub dX6_reckon_41 rfl) <|
  ac_cons (so_goto dX6_reckon_42 (by decide)) <|
  ac_cons (so_lconst dX6_reckon_45 (by decide +kernel) rfl) <|
  ac_cons (so_lreturn rfl dX6_reckon_46) <|
  ac_cons (so_iload_n dX6_reckon_47 rfl rfl) <|
  ac_cons (so_iconst dX6_reckon_48 (by decide +kernel) rfl) <|
  ac_cons (so_icmp_ne dX6_reckon_49 (by decide) rfl) <|
  ac_cons (so_lload_n dX6_reckon_52 rfl rfl) <|
  ac_cons (so_lload_n dX6_reckon_53 rfl rfl) <|
  ac_cons (so_ldiv dX6_reckon_54 rfl) <|
  ac_cons (so_goto dX6_reckon_55 (by decide)) <|
  ac_cons (so_lload_n dX6_reckon_58 rfl rfl) <|
  ac_cons (so_lload_n dX6_reckon_59 rfl rfl) <|
  ac_cons (so_lrem dX6_reckon_60 rfl) <|
  ac_cons (so_lreturn rfl dX6_reckon_61) <| ac_nil
theorem C_X6_reckon : ac_Ct yX6_reckon M_X6_reckon T_X6_reckon := ac_meth (by decide +kernel) rfl rfl rfl rfl s_X6_reckon
-- X6_combine
abbrev rm_X6_combine : Room := { frames := 3, cells := 0, slots := 0, locals := 68 }
abbrev M_X6_combine : ac_D := (RX6, "combine", cX6_combine, 15, some FieldType.long, [], rm_X6_combine)
theorem tb_X6_combine : ac_tb RX6 [] := fun q h => (by cases h)
theorem dy_X6_combine : yX6_combine.cls ≠ "java/lang/invoke/MethodHandle" ∧ yX6_combine.cls ≠ "java/lang/invoke/VarHandle" ∧ (parseMethodDescriptor yX6_combine.desc).map (fun d => d.parameters.length) = some 5 := by decide +kernel
def k_X6_combine : List (Nat × ac_op) := [(0, op_aload 0 1),
  (1, op_iload 1 2),
  (2, op_push (.int 0) 3),
  (3, op_push (.int 4) 4),
  (4, op_callS rm_X6_combine [] T_X6_in rm_X6_in 3 4 7),
  (7, op_if (fun x => x = 0) 35 10),
  (10, op_iload 2 11),
  (11, op_push (.int 0) 12),
  (12, op_push (.int 7) 14),
  (14, op_callS rm_X6_combine [] T_X6_in rm_X6_in 3 14 17),
  (17, op_if (fun x => x = 0) 35 20),
  (20, op_iload 4 22),
  (22, op_push (.int 0) 23),
  (23, op_push (.int 7) 25),
  (25, op_callS rm_X6_combine [] T_X6_in rm_X6_in 3 25 28),
  (28, op_if (fun x => x = 0) 35 31),
  (31, op_push (.int 1) 32),
  (32, op_goto 36),
  (35, op_push (.int 0) 36),
  (36, op_push (.int 1) 37),
  (37, op_callV rm_X6_combine [] 9 T_X6_good rm_X6_good 2 37 40),
  (40, op_if (fun x => x = 0) 54 43),
  (43, op_aload 0 44),
  (44, op_iload 2 45),
  (45, op_iload 4 47),
  (47, op_push (.int 5) 48),
  (48, op_callV rm_X6_combine [] 9 T_X6_both rm_X6_both 3 48 51),
  (51, op_if (fun x => ¬ x = 0) 56 54),
  (54, op_push (.long 0) 55),
  (55, op_lreturn rm_X6_combine),
  (56, op_aload 0 57),
  (57, op_aload 0 58),
  (58, op_get 9 0 61),
  (61, op_iload 2 62),
  (62, op_iald 63),
  (63, op_callV rm_X6_combine [] 9 T_X6_sort rm_X6_sort 1 63 66),
  (66, op_push (.int 5) 67),
  (67, op_icmp (fun x y => y ≤ x) 89 70),
  (70, op_aload 0 71),
  (71, op_aload 0 72),
  (72, op_get 9 0 75),
  (75, op_iload 4 77),
  (77, op_iald 78),
  (78, op_callV rm_X6_combine [] 9 T_X6_sort rm_X6_sort 1 78 81),
  (81, op_push (.int 5) 82),
  (82, op_icmp (fun x y => y ≤ x) 89 85),
  (85, op_push (.int 1) 86),
  (86, op_goto 90),
  (89, op_push (.int 0) 90),
  (90, op_istore 6 92),
  (92, op_aload 0 93),
  (93, op_aload 0 94),
  (94, op_aload 0 95),
  (95, op_get 9 0 98),
  (98, op_iload 2 99),
  (99, op_iald 100),
  (100, op_iload 3 101),
  (101, op_callV rm_X6_combine [] 9 T_X6_find rm_X6_find 2 101 104),
  (104, op_put 9 11 107),
  (107, op_aload 0 108),
  (108, op_get 9 11 111),
  (111, op_if (fun x => x = 0) 116 114),
  (114, op_push (.long 0) 115),
  (115, op_lreturn rm_X6_combine),
  (116, op_aload 0 117),
  (117, op_callV rm_X6_combine [] 9 T_X6_here rm_X6_here 0 117 120),
  (120, op_lstore 7 122),
  (122, op_aload 0 123),
  (123, op_get 9 9 126),
  (126, op_istore 9 128),
  (128, op_aload 0 129),
  (129, op_get 9 10 132),
  (132, op_istore 10 134),
  (134, op_aload 0 135),
  (135, op_aload 0 136),
  (136, op_aload 0 137),
  (137, op_get 9 0 140),
  (140, op_iload 4 142),
  (142, op_iald 143),
  (143, op_iload 5 145),
  (145, op_callV rm_X6_combine [] 9 T_X6_find rm_X6_find 2 145 148),
  (148, op_put 9 11 151),
  (151, op_aload 0 152),
  (152, op_get 9 11 155),
  (155, op_if (fun x => x = 0) 160 158),
  (158, op_push (.long 0) 159),
  (159, op_lreturn rm_X6_combine),
  (160, op_aload 0 161),
  (161, op_callV rm_X6_combine [] 9 T_X6_here rm_X6_here 0 161 164),
  (164, op_lstore 11 166),
  (166, op_aload 0 167),
  (167, op_iload 1 168),
  (168, op_push (.int 3) 169),
  (169, op_icmp (fun x y => x < y) 179 172),
  (172, op_lload 11 174),
  (174, op_push (.long 0) 175),
  (175, op_lcmp 176),
  (176, op_if (fun x => x = 0) 183 179),
  (179, op_push (.int 1) 180),
  (180, op_goto 184),
  (183, op_push (.int 0) 184),
  (184, op_push (.int 5) 185),
  (185, op_callV rm_X6_combine [] 9 T_X6_good rm_X6_good 2 185 188),
  (188, op_if (fun x => ¬ x = 0) 193 191),
  (191, op_push (.long 0) 192),
  (192, op_lreturn rm_X6_combine),
  (193, op_iload 1 194),
  (194, op_lload 7 196),
  (196, op_lload 11 198),
  (198, op_callS rm_X6_combine [] T_X6_reckon rm_X6_reckon 3 198 201),
  (201, op_lstore 13 203),
  (203, op_aload 0 204),
  (204, op_iload 9 206),
  (206, op_put 9 9 209),
  (209, op_aload 0 210),
  (210, op_iload 10 212),
  (212, op_put 9 10 215),
  (215, op_aload 0 216),
  (216, op_iload 6 218),
  (218, op_if (fun x => x = 0) 228 221),
  (221, op_lload 13 223),
  (223, op_l (fun x => .int x.toInt32) 224),
  (224, op_i (fun x => .long x.toInt64) 225),
  (225, op_goto 230),
  (228, op_lload 13 230),
  (230, op_callV rm_X6_combine [] 9 T_X6_set rm_X6_set 1 230 233),
  (233, op_lreturn rm_X6_combine)]
def T_X6_combine : ac_T := ac_vc k_X6_combine 15
set_option maxRecDepth 100000 in
set_option maxHeartbeats 4000000 in
theorem s_X6_combine : ∀ x ∈ k_X6_combine, ac_So M_X6_combine (fun _ _ _ => False) x.1 x.2 :=
  ac_cons (so_aload_n dX6_combine_0 rfl rfl) <|
  ac_cons (so_iload_n dX6_combine_1 rfl rfl) <|
  ac_cons (so_iconst dX6_combine_2 (by decide +kernel) rfl) <|
  ac_cons (so_iconst dX6_combine_3 (by decide +kernel) rfl) <|
  ac_cons (so_callS (N := M_X6_in) C_X6_in rfl ⟨wd_679, wd_25, dy_X6_in, ⟨by decide, by decide⟩, tb_X6_combine⟩ dX6_combine_4 wd_677 wd_678 rfl) <|
  ac_cons (so_if_eq dX6_combine_7 (by decide) rfl) <|
  ac_cons (so_iload_n dX6_combine_10 rfl rfl) <|
  ac_cons (so_iconst dX6_combine_11 (by decide +kernel) rfl) <|
  ac_cons (so_bipush dX6_combine_12 (by decide +kernel) rfl) <|
  ac_cons (so_callS (N := M_X6_in) C_X6_in rfl ⟨wd_679, wd_25, dy_X6_in, ⟨by decide, by decide⟩, tb_X6_combine⟩ dX6_combine_14 wd_677 wd_678 rfl) <|
  ac_cons (so_if_eq dX6_combine_17 (by decide) rfl) <|
  ac_cons (so_iload dX6_combine_20 rfl) <|
  ac_cons (so_iconst dX6_combine_22 (by decide +kernel) rfl) <|
  ac_cons (so_bipush dX6_combine_23 (by decide +kernel) rfl) <|
  ac_cons (so_callS (N := M_X6_in) C_X6_in rfl ⟨wd_679, wd_25, dy_X6_in, ⟨by decide, by decide⟩, tb_X6_combine⟩ dX6_combine_25 wd_677 wd_678 rfl) <|
  ac_cons (so_if_eq dX6_combine_28 (by decide) rfl) <|
  ac_cons (so_iconst dX6_combine_31 (by decide +kernel) rfl) <|
  ac_cons (so_goto dX6_combine_32 (by decide)) <|
  ac_cons (so_iconst dX6_combine_35 (by decide +kernel) rfl) <|
  ac_cons (so_iconst dX6_combine_36 (by decide +kernel) rfl) <|
  ac_cons (so_callV (N := M_X6_good) (ci := 9) C_X6_good rfl ⟨wd_683, wd_25, dy_X6_good, ⟨by decide, by decide⟩, tb_X6_combine⟩ rfl dX6_combine_37 wd_680 wd_682 wd_8 rfl) <|
  ac_cons (so_if_eq dX6_combine_40 (by decide) rfl) <|
  ac_cons (so_aload_n dX6_combine_43 rfl rfl) <|
  ac_cons (so_iload_n dX6_combine_44 rfl rfl) <|
  ac_cons (so_iload dX6_combine_45 rfl) <|
  ac_cons (so_iconst dX6_combine_47 (by decide +kernel) rfl) <|
  ac_cons (so_callV (N := M_X6_both) (ci := 9) C_X6_both rfl ⟨wd_816, wd_25, dy_X6_both, ⟨by decide, by decide⟩, tb_X6_combine⟩ rfl dX6_combine_48 wd_813 wd_815 wd_22 rfl) <|
  ac_cons (so_if_ne dX6_combine_51 (by decide) rfl) <|
  ac_cons (so_lconst dX6_combine_54 (by decide +kernel) rfl) <|
  ac_cons (so_lreturn rfl dX6_combine_55) <|
  ac_cons (so_aload_n dX6_combine_56 rfl rfl) <|
  ac_cons (so_aload_n dX6_combine_57 rfl rfl) <|
  ac_cons (so_get (ci := 9) (f := 0) rfl in_X6 (by decide) dX6_combine_58 wd_631 rfl) <|
  ac_cons (so_iload_n dX6_combine_61 rfl rfl) <|
  ac_cons (so_iald dX6_combine_62 rfl) <|
  ac_cons (so_callV (N := M_X6_sort) (ci := 9) C_X6_sort rfl ⟨wd_736, wd_25, dy_X6_sort, ⟨by decide, by decide⟩, tb_X6_combine⟩ rfl dX6_combine_63 wd_733 wd_735 wd_13 rfl) <|
  ac_cons (so_iconst dX6_combine_66 (by decide +kernel) rfl) <|
  ac_cons (so_icmp_ge dX6_combine_67 (by decide) rfl) <|
  ac_cons (so_aload_n dX6_combine_70 rfl rfl) <|
  ac_cons (so_aload_n dX6_combine_71 rfl rfl) <|
  ac_cons (so_get (ci := 9) (f := 0) rfl in_X6 (by decide) dX6_combine_72 wd_631 rfl) <|
  ac_cons (so_iload dX6_combine_75 rfl) <|
  ac_cons (so_iald dX6_combine_77 rfl) <|
  ac_cons (so_callV (N := M_X6_sort) (ci := 9) C_X6_sort rfl ⟨wd_736, wd_25, dy_X6_sort, ⟨by decide, by decide⟩, tb_X6_combine⟩ rfl dX6_combine_78 wd_733 wd_735 wd_13 rfl) <|
  ac_cons (so_iconst dX6_combine_81 (by decide +kernel) rfl) <|
  ac_cons (so_icmp_ge dX6_combine_82 (by decide) rfl) <|
  ac_cons (so_iconst dX6_combine_85 (by decide +kernel) rfl) <|
  ac_cons (so_goto dX6_combine_86 (by decide)) <|
  ac_cons (so_iconst dX6_combine_89 (by decide +kernel) rfl) <|
  ac_cons (so_istore dX6_combine_90 rfl) <|
  ac_cons (so_aload_n dX6_combine_92 rfl rfl) <|
  ac_cons (so_aload_n dX6_combine_93 rfl rfl) <|
  ac_cons (so_aload_n dX6_combine_94 rfl rfl) <|
  ac_cons (so_get (ci := 9) (f := 0) rfl in_X6 (by decide) dX6_combine_95 wd_631 rfl) <|
  ac_cons (so_iload_n dX6_combine_98 rfl rfl) <|
  ac_cons (so_iald dX6_combine_99 rfl) <|
  ac_cons (so_iload_n dX6_combine_100 rfl rfl) <|
  ac_cons (so_callV (N := M_X6_find) (ci := 9) C_X6_find rfl ⟨wd_744, wd_25, dy_X6_find, ⟨by decide, by decide⟩, tb_X6_combine⟩ rfl dX6_combine_101 wd_741 wd_743 wd_15 rfl) <|
  ac_cons (so_put (ci := 9) (f := 11) rfl in_X6 tyX6_ok nmX6 (by decide) rfl rfl dX6_combine_104 wd_642 rfl) <|
  ac_cons (so_aload_n dX6_combine_107 rfl rfl) <|
  ac_cons (so_get (ci := 9) (f := 11) rfl in_X6 (by decide) dX6_combine_108 wd_642 rfl) <|
  ac_cons (so_if_eq dX6_combine_111 (by decide) rfl) <|
  ac_cons (so_lconst dX6_combine_114 (by decide +kernel) rfl) <|
  ac_cons (so_lreturn rfl dX6_combine_115) <|
  ac_cons (so_aload_n dX6_combine_116 rfl rfl) <|
  ac_cons (so_callV (N := M_X6_here) (ci := 9) C_X6_here rfl ⟨wd_748, wd_25, dy_X6_here, ⟨by decide, by decide⟩, tb_X6_combine⟩ rfl dX6_combine_117 wd_745 wd_747 wd_16 rfl) <|
  ac_cons (so_lstore dX6_combine_120 rfl) <|
  ac_cons (so_aload_n dX6_combine_122 rfl rfl) <|
  ac_cons (so_get (ci := 9) (f := 9) rfl in_X6 (by decide) dX6_combine_123 wd_640 rfl) <|
  ac_cons (so_istore dX6_combine_126 rfl) <|
  ac_cons (so_aload_n dX6_combine_128 rfl rfl) <|
  ac_cons (so_get (ci := 9) (f := 10) rfl in_X6 (by decide) dX6_combine_129 wd_641 rfl) <|
  ac_cons (so_istore dX6_combine_132 rfl) <|
  ac_cons (so_aload_n dX6_combine_134 rfl rfl) <|
  ac_cons (so_aload_n dX6_combine_135 rfl rfl) <|
  ac_cons (so_aload_n dX6_combine_136 rfl rfl) <|
  ac_cons (so_get (ci := 9) (f := 0) rfl in_X6 (by decide) dX6_combine_137 wd_631 rfl) <|
  ac_cons (so_iload dX6_combine_140 rfl) <|
  ac_cons (so_iald dX6_combine_142 rfl) <|
  ac_cons (so_iload dX6_combine_143 rfl) <|
  ac_cons (so_callV (N := M_X6_find) (ci := 9) C_X6_find rfl ⟨wd_744, wd_25, dy_X6_find, ⟨by decide, by decide⟩, tb_X6_combine⟩ rfl dX6_combine_145 wd_741 wd_743 wd_15 rfl) <|
  ac_cons (so_put (ci := 9) (f := 11) rfl in_X6 tyX6_ok nmX6 (by decide) rfl rfl dX6_combine_148 wd_642 rfl) <|
  ac_cons (so_aload_n dX6_combine_151 rfl rfl) <|
  ac_cons (so_get (ci := 9) (f := 11) rfl in_X6 (by decide) dX6_combine_152 wd_642 rfl) <|
  ac_cons (so_if_eq dX6_combine_155 (by decide) rfl) <|
  ac_cons (so_lconst dX6_combine_158 (by decide +kernel) rfl) <|
  ac_cons (so_lreturn rfl dX6_combine_159) <|
  ac_cons (so_aload_n dX6_combine_160 rfl rfl) <|
  ac_cons (so_callV (N := M_X6_here) (ci := 9) C_X6_here rfl ⟨wd_748, wd_25, dy_X6_here, ⟨by decide, by decide⟩, tb_X6_combine⟩ rfl dX6_combine_161 wd_745 wd_747 wd_16 rfl) <|
  ac_cons (so_lstore dX6_combine_164 rfl) <|
  ac_cons (so_aload_n dX6_combine_166 rfl rfl) <|
  ac_cons (so_iload_n dX6_combine_167 rfl rfl) <|
  ac_cons (so_iconst dX6_combine_168 (by decide +kernel) rfl) <|
  ac_cons (so_icmp_lt dX6_combine_169 (by decide) rfl) <|
  ac_cons (so_lload dX6_combine_172 rfl) <|
  ac_cons (so_lconst dX6_combine_174 (by decide +kernel) rfl) <|
  ac_cons (so_lcmp dX6_combine_175 rfl) <|
  ac_cons (so_if_eq dX6_combine_176 (by decide) rfl) <|
  ac_cons (so_iconst dX6_combine_179 (by decide +kernel) rfl) <|
  ac_cons (so_goto dX6_combine_180 (by decide)) <|
  ac_cons (so_iconst dX6_combine_183 (by decide +kernel) rfl) <|
  ac_cons (so_iconst dX6_combine_184 (by decide +kernel) rfl) <|
  ac_cons (so_callV (N := M_X6_good) (ci := 9) C_X6_good rfl ⟨wd_683, wd_25, dy_X6_good, ⟨by decide, by decide⟩, tb_X6_combine⟩ rfl dX6_combine_185 wd_680 wd_682 wd_8 rfl) <|
  ac_cons (so_if_ne dX6_combine_188 (by decide) rfl) <|
  ac_cons (so_lconst dX6_combine_191 (by decide +kernel) rfl) <|
  ac_cons (so_lreturn rfl dX6_combine_192) <|
  ac_cons (so_iload_n dX6_combine_193 rfl rfl) <|
  ac_cons (so_lload dX6_combine_194 rfl) <|
  ac_cons (so_lload dX6_combine_196 rfl) <|
  ac_cons (so_callS (N := M_X6_reckon) C_X6_reckon rfl ⟨wd_819, wd_25, dy_X6_reckon, ⟨by decide, by decide⟩, tb_X6_combine⟩ dX6_combine_198 wd_817 wd_818 rfl) <|
  ac_cons (so_lstore dX6_combine_201 rfl) <|
  ac_cons (so_aload_n dX6_combine_203 rfl rfl) <|
  ac_cons (so_iload dX6_combine_204 rfl) <|
  ac_cons (so_put (ci := 9) (f := 9) rfl in_X6 tyX6_ok nmX6 (by decide) rfl rfl dX6_combine_206 wd_640 rfl) <|
  ac_cons (so_aload_n dX6_combine_209 rfl rfl) <|
  ac_cons (so_iload dX6_combine_210 rfl) <|
  ac_cons (so_put (ci := 9) (f := 10) rfl in_X6 tyX6_ok nmX6 (by decide) rfl rfl dX6_combine_212 wd_641 rfl) <|
  ac_cons (so_aload_n dX6_combine_215 rfl rfl) <|
  ac_cons (so_iload dX6_combine_216 rfl) <|
  ac_cons (so_if_eq dX6_combine_218 (by decide) rfl) <|
  ac_cons (so_lload dX6_combine_221 rfl) <|
  ac_cons (so_l2i dX6_combine_223 rfl) <|
  ac_cons (so_i2l dX6_combine_224 rfl) <|
  ac_cons (so_goto dX6_combine_225 (by decide)) <|
  ac_cons (so_lload dX6_combine_228 rfl) <|
  ac_cons (so_callV (N := M_X6_set) (ci := 9) C_X6_set rfl ⟨wd_756, wd_25, dy_X6_set, ⟨by decide, by decide⟩, tb_X6_combine⟩ rfl dX6_combine_230 wd_753 wd_755 wd_17 rfl) <|
  ac_cons (so_lreturn rfl dX6_combine_233) <| ac_nil
theorem C_X6_combine : ac_Ct yX6_combine M_X6_combine T_X6_combine := ac_meth (by decide +kernel) rfl rfl rfl rfl s_X6_combine
-- X6_move
abbrev rm_X6_move : Room := { frames := 3, cells := 0, slots := 0, locals := 68 }
abbrev M_X6_move : ac_D := (RX6, "move", cX6_move, 9, some FieldType.int, [], rm_X6_move)
theorem tb_X6_move : ac_tb RX6 [] := fun q h => (by cases h)
theorem dy_X6_move : yX6_move.cls ≠ "java/lang/invoke/MethodHandle" ∧ yX6_move.cls ≠ "java/lang/invoke/VarHandle" ∧ (parseMethodDescriptor yX6_move.desc).map (fun d => d.parameters.length) = some 5 := by decide +kernel
def k_X6_move : List (Nat × ac_op) := [(0, op_aload 0 1),
  (1, op_iload 1 2),
  (2, op_push (.int 0) 3),
  (3, op_push (.int 7) 5),
  (5, op_callS rm_X6_move [] T_X6_in rm_X6_in 3 5 8),
  (8, op_if (fun x => x = 0) 36 11),
  (11, op_iload 3 12),
  (12, op_push (.int 0) 13),
  (13, op_push (.int 7) 15),
  (15, op_callS rm_X6_move [] T_X6_in rm_X6_in 3 15 18),
  (18, op_if (fun x => x = 0) 36 21),
  (21, op_iload 5 23),
  (23, op_push (.int 0) 24),
  (24, op_push (.int 24) 26),
  (26, op_callS rm_X6_move [] T_X6_in rm_X6_in 3 26 29),
  (29, op_if (fun x => x = 0) 36 32),
  (32, op_push (.int 1) 33),
  (33, op_goto 37),
  (36, op_push (.int 0) 37),
  (37, op_push (.int 1) 38),
  (38, op_callV rm_X6_move [] 9 T_X6_good rm_X6_good 2 38 41),
  (41, op_if (fun x => x = 0) 55 44),
  (44, op_aload 0 45),
  (45, op_iload 1 46),
  (46, op_iload 3 47),
  (47, op_push (.int 7) 49),
  (49, op_callV rm_X6_move [] 9 T_X6_both rm_X6_both 3 49 52),
  (52, op_if (fun x => ¬ x = 0) 57 55),
  (55, op_push (.int 0) 56),
  (56, op_ireturn rm_X6_move),
  (57, op_push (.int 0) 58),
  (58, op_istore 6 60),
  (60, op_iload 6 62),
  (62, op_iload 5 64),
  (64, op_icmp (fun x y => y ≤ x) 141 67),
  (67, op_aload 0 68),
  (68, op_aload 0 69),
  (69, op_aload 0 70),
  (70, op_get 9 0 73),
  (73, op_iload 3 74),
  (74, op_iald 75),
  (75, op_iload 4 77),
  (77, op_iload 6 79),
  (79, op_ii (fun x y => x + y) 80),
  (80, op_callV rm_X6_move [] 9 T_X6_find rm_X6_find 2 80 83),
  (83, op_put 9 11 86),
  (86, op_aload 0 87),
  (87, op_get 9 11 90),
  (90, op_if (fun x => x = 0) 95 93),
  (93, op_push (.int 0) 94),
  (94, op_ireturn rm_X6_move),
  (95, op_aload 0 96),
  (96, op_callV rm_X6_move [] 9 T_X6_here rm_X6_here 0 96 99),
  (99, op_lstore 7 101),
  (101, op_aload 0 102),
  (102, op_aload 0 103),
  (103, op_aload 0 104),
  (104, op_get 9 0 107),
  (107, op_iload 1 108),
  (108, op_iald 109),
  (109, op_iload 2 110),
  (110, op_iload 6 112),
  (112, op_ii (fun x y => x + y) 113),
  (113, op_callV rm_X6_move [] 9 T_X6_find rm_X6_find 2 113 116),
  (116, op_put 9 11 119),
  (119, op_aload 0 120),
  (120, op_get 9 11 123),
  (123, op_if (fun x => x = 0) 128 126),
  (126, op_push (.int 0) 127),
  (127, op_ireturn rm_X6_move),
  (128, op_aload 0 129),
  (129, op_lload 7 131),
  (131, op_callV rm_X6_move [] 9 T_X6_set rm_X6_set 1 131 134),
  (134, op_pop2 135),
  (135, op_iinc 6 1 138),
  (138, op_goto 60),
  (141, op_iload 5 143),
  (143, op_ireturn rm_X6_move)]
def T_X6_move : ac_T := ac_vc k_X6_move 9
set_option maxRecDepth 100000 in
set_option maxHeartbeats 4000000 in
theorem s_X6_move : ∀ x ∈ k_X6_move, ac_So M_X6_move (fun _ _ _ => False) x.1 x.2 :=
  ac_cons (so_aload_n dX6_move_0 rfl rfl) <|
  ac_cons (so_iload_n dX6_move_1 rfl rfl) <|
  ac_cons (so_iconst dX6_move_2 (by decide +kernel) rfl) <|
  ac_cons (so_bipush dX6_move_3 (by decide +kernel) rfl) <|
  ac_cons (so_callS (N := M_X6_in) C_X6_in rfl ⟨wd_679, wd_25, dy_X6_in, ⟨by decide, by decide⟩, tb_X6_move⟩ dX6_move_5 wd_677 wd_678 rfl) <|
  ac_cons (so_if_eq dX6_move_8 (by decide) rfl) <|
  ac_cons (so_iload_n dX6_move_11 rfl rfl) <|
  ac_cons (so_iconst dX6_move_12 (by decide +kernel) rfl) <|
  ac_cons (so_bipush dX6_move_13 (by decide +kernel) rfl) <|
  ac_cons (so_callS (N := M_X6_in) C_X6_in rfl ⟨wd_679, wd_25, dy_X6_in, ⟨by decide, by decide⟩, tb_X6_move⟩ dX6_move_15 wd_677 wd_678 rfl) <|
  ac_cons (so_if_eq dX6_move_18 (by decide) rfl) <|
  ac_cons (so_iload dX6_move_21 rfl) <|
  ac_cons (so_iconst dX6_move_23 (by decide +kernel) rfl) <|
  ac_cons (so_bipush dX6_move_24 (by decide +kernel) rfl) <|
  ac_cons (so_callS (N := M_X6_in) C_X6_in rfl ⟨wd_679, wd_25, dy_X6_in, ⟨by decide, by decide⟩, tb_X6_move⟩ dX6_move_26 wd_677 wd_678 rfl) <|
  ac_cons (so_if_eq dX6_move_29 (by decide) rfl) <|
  ac_cons (so_iconst dX6_move_32 (by decide +kernel) rfl) <|
  ac_cons (so_goto dX6_move_33 (by decide)) <|
  ac_cons (so_iconst dX6_move_36 (by decide +kernel) rfl) <|
  ac_cons (so_iconst dX6_move_37 (by decide +kernel) rfl) <|
  ac_cons (so_callV (N := M_X6_good) (ci := 9) C_X6_good rfl ⟨wd_683, wd_25, dy_X6_good, ⟨by decide, by decide⟩, tb_X6_move⟩ rfl dX6_move_38 wd_680 wd_682 wd_8 rfl) <|
  ac_cons (so_if_eq dX6_move_41 (by decide) rfl) <|
  ac_cons (so_aload_n dX6_move_44 rfl rfl) <|
  ac_cons (so_iload_n dX6_move_45 rfl rfl) <|
  ac_cons (so_iload_n dX6_move_46 rfl rfl) <|
  ac_cons (so_bipush dX6_move_47 (by decide +kernel) rfl) <|
  ac_cons (so_callV (N := M_X6_both) (ci := 9) C_X6_both rfl ⟨wd_816, wd_25, dy_X6_both, ⟨by decide, by decide⟩, tb_X6_move⟩ rfl dX6_move_49 wd_813 wd_815 wd_22 rfl) <|
  ac_cons (so_if_ne dX6_move_52 (by decide) rfl) <|
  ac_cons (so_iconst dX6_move_55 (by decide +kernel) rfl) <|
  ac_cons (so_ireturn rfl dX6_move_56) <|
  ac_cons (so_iconst dX6_move_57 (by decide +kernel) rfl) <|
  ac_cons (so_istore dX6_move_58 rfl) <|
  ac_cons (so_iload dX6_move_60 rfl) <|
  ac_cons (so_iload dX6_move_62 rfl) <|
  ac_cons (so_icmp_ge dX6_move_64 (by decide) rfl) <|
  ac_cons (so_aload_n dX6_move_67 rfl rfl) <|
  ac_cons (so_aload_n dX6_move_68 rfl rfl) <|
  ac_cons (so_aload_n dX6_move_69 rfl rfl) <|
  ac_cons (so_get (ci := 9) (f := 0) rfl in_X6 (by decide) dX6_move_70 wd_631 rfl) <|
  ac_cons (so_iload_n dX6_move_73 rfl rfl) <|
  ac_cons (so_iald dX6_move_74 rfl) <|
  ac_cons (so_iload dX6_move_75 rfl) <|
  ac_cons (so_iload dX6_move_77 rfl) <|
  ac_cons (so_iadd dX6_move_79 rfl) <|
  ac_cons (so_callV (N := M_X6_find) (ci := 9) C_X6_find rfl ⟨wd_744, wd_25, dy_X6_find, ⟨by decide, by decide⟩, tb_X6_move⟩ rfl dX6_move_80 wd_741 wd_743 wd_15 rfl) <|
  ac_cons (so_put (ci := 9) (f := 11) rfl in_X6 tyX6_ok nmX6 (by decide) rfl rfl dX6_move_83 wd_642 rfl) <|
  ac_cons (so_aload_n dX6_move_86 rfl rfl) <|
  ac_cons (so_get (ci := 9) (f := 11) rfl in_X6 (by decide) dX6_move_87 wd_642 rfl) <|
  ac_cons (so_if_eq dX6_move_90 (by decide) rfl) <|
  ac_cons (so_iconst dX6_move_93 (by decide +kernel) rfl) <|
  ac_cons (so_ireturn rfl dX6_move_94) <|
  ac_cons (so_aload_n dX6_move_95 rfl rfl) <|
  ac_cons (so_callV (N := M_X6_here) (ci := 9) C_X6_here rfl ⟨wd_748, wd_25, dy_X6_here, ⟨by decide, by decide⟩, tb_X6_move⟩ rfl dX6_move_96 wd_745 wd_747 wd_16 rfl) <|
  ac_cons (so_lstore dX6_move_99 rfl) <|
  ac_cons (so_aload_n dX6_move_101 rfl rfl) <|
  ac_cons (so_aload_n dX6_move_102 rfl rfl) <|
  ac_cons (so_aload_n dX6_move_103 rfl rfl) <|
  ac_cons (so_get (ci := 9) (f := 0) rfl in_X6 (by decide) dX6_move_104 wd_631 rfl) <|
  ac_cons (so_iload_n dX6_move_107 rfl rfl) <|
  ac_cons (so_iald dX6_move_108 rfl) <|
  ac_cons (so_iload_n dX6_move_109 rfl rfl) <|
  ac_cons (so_iload dX6_move_110 rfl) <|
  ac_cons (so_iadd dX6_move_112 rfl) <|
  ac_cons (so_callV (N := M_X6_find) (ci := 9) C_X6_find rfl ⟨wd_744, wd_25, dy_X6_find, ⟨by decide, by decide⟩, tb_X6_move⟩ rfl dX6_move_113 wd_741 wd_743 wd_15 rfl) <|
  ac_cons (so_put (ci := 9) (f := 11) rfl in_X6 tyX6_ok nmX6 (by decide) rfl rfl dX6_move_116 wd_642 rfl) <|
  ac_cons (so_aload_n dX6_move_119 rfl rfl) <|
  ac_cons (so_get (ci := 9) (f := 11) rfl in_X6 (by decide) dX6_move_120 wd_642 rfl) <|
  ac_cons (so_if_eq dX6_move_123 (by decide) rfl) <|
  ac_cons (so_iconst dX6_move_126 (by decide +kernel) rfl) <|
  ac_cons (so_ireturn rfl dX6_move_127) <|
  ac_cons (so_aload_n dX6_move_128 rfl rfl) <|
  ac_cons (so_lload dX6_move_129 rfl) <|
  ac_cons (so_callV (N := M_X6_set) (ci := 9) C_X6_set rfl ⟨wd_756, wd_25, dy_X6_set, ⟨by decide, by decide⟩, tb_X6_move⟩ rfl dX6_move_131 wd_753 wd_755 wd_17 rfl) <|
  ac_cons (so_pop2 dX6_move_134 rfl) <|
  ac_cons (so_iinc dX6_move_135 (by decide +kernel) rfl) <|
  ac_cons (so_goto dX6_move_138 (by decide)) <|
  ac_cons (so_iload dX6_move_141 rfl) <|
  ac_cons (so_ireturn rfl dX6_move_143) <| ac_nil
theorem C_X6_move : ac_Ct yX6_move M_X6_move T_X6_move := ac_meth (by decide +kernel) rfl rfl rfl rfl s_X6_move
