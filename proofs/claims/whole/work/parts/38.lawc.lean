/-! ===== the law: its code, in pieces ===== -/
-- L_law
abbrev rm_L_law : Room := room_1
abbrev M_L_law : ac_D := (RL, "law", cL_law, 8, some FieldType.boolean, [], rm_L_law)
theorem tb_L_law : ac_tb RL [] := fun q h => (by cases h)
theorem dy_L_law : yL_law.cls ≠ "java/lang/invoke/MethodHandle" ∧ yL_law.cls ≠ "java/lang/invoke/VarHandle" ∧ (parseMethodDescriptor yL_law.desc).map (fun d => d.parameters.length) = some 1 := by decide +kernel
def ac_lkL : List (Nat × List (Nat × ac_op)) → Nat → ac_op
  | [], _ => fun _ _ _ _ _ _ _ => False
  | x :: t, pc => cond (Nat.ble pc x.1) (ac_lk x.2 pc) (ac_lkL t pc)
def ac_vcL (code : List (Nat × List (Nat × ac_op))) (nL : Nat) : ac_T := fun args ah Q =>
  ∀ P : ac_P, (∀ (pc : Nat) (lv : ac_V) (st : List Value) (h : ac_H) (k n : Nat), ac_lkL code pc P Q lv st h k n → P pc lv st h k n) → ac_ent args nL (fun lv => P 0 lv [] ah 0 0)
theorem ac_lkLv {code : List (Nat × List (Nat × ac_op))} {pc : Nat} {P : ac_P} {Q : ac_Q} {lv : ac_V} {st : List Value} {ah : ac_H} {k n : Nat} (h : ac_lkL code pc P Q lv st ah k n) : ∃ c ∈ code, ac_lk c.2 pc P Q lv st ah k n := by
  induction code with
  | nil => exact False.elim h
  | cons x t ih =>
    have h : cond (Nat.ble pc x.1) (ac_lk x.2 pc) (ac_lkL t pc) P Q lv st ah k n := h
    cases hc : Nat.ble pc x.1 with
    | true =>
      rw [hc] at h
      exact ⟨x, List.mem_cons_self, h⟩
    | false =>
      rw [hc] at h
      obtain ⟨c, h1, h2⟩ := ih h
      exact ⟨c, List.mem_cons_of_mem _ h1, h2⟩
theorem ac_bodyL {M : ac_D} {scr : Nat → Nat → (Nat → Int32) → Prop} {code : List (Nat × List (Nat × ac_op))} {p : Program} {l : Launch} {e : Env} {s : State} {m : MethodId} {below : List Frame} {meth : Method} {c : Code} {base : Nat} {D : va_G} {A : Nat → ClassId} {as : List Value} {ah : ac_H} {Q : ac_Q} (hso : ∀ y ∈ code, ∀ x ∈ y.2, ac_So M scr x.1 x.2) (G : ac_G l p s m as.toArray meth c M base D A scr) (hR : ac_Rep base D A ah s.heap) (hT : ac_vcL code M.2.2.2.1 as ah Q) :
    W p l e M.2.2.2.2.2.2 s m as.toArray below meth c s.heap [] 0 0 (vx_MQ below (ac_Qc base D A Q) (ac_XC base D A Q) as.toArray s M.2.2.2.2.2.2.cells M.2.2.2.2.2.2.slots (ac_B base)) (entryFrame m as.toArray M.2.2.2.1) := by
  have h := hT (ac_W p l e s m as.toArray below meth c M.2.2.2.1 M.2.2.2.2.2.2 base D A Q) (fun pc lv st h k n hl => by
    obtain ⟨y, hy, hl⟩ := ac_lkLv hl
    obtain ⟨op, h1, h2⟩ := ac_lkv hl
    exact hso _ hy _ h1 p l e s m as.toArray below meth c base D A Q G lv st h k n h2)
  obtain ⟨lv, h1, h2, h3, h4⟩ := ac_entv h
  have hl := lv_entry as (n := M.2.2.2.1) h3
  rw [lg_entry_eq]
  exact h1 s.heap [] _ hR va_S.rf ⟨hl.1, hl.2.1, h2, fun j w hj => by
    have := h4 0 j w hj
    rw [Nat.zero_add] at this
    exact hl.2.2 (j, w) this⟩
def k_l00 (scr : Nat → Nat → (Nat → Int32) → Prop) : List (Nat × ac_op) := [(0, op_new rm_L_law 8 3),
  (3, op_dup 4),
  (4, op_callI rm_L_law [] T_X5_init rm_X5_init 0 4 7),
  (7, op_astore 1 8),
  (8, op_new rm_L_law 9 11),
  (11, op_dup 12),
  (12, op_callI rm_L_law [] T_X6_init rm_X6_init 0 12 15),
  (15, op_astore 2 16),
  (16, op_push (.int 1) 17),
  (17, op_newa rm_L_law 2 19),
  (19, op_astore 3 20),
  (20, op_push (.int 0) 21),
  (21, op_istore 4 23),
  (23, op_iload 4 25),
  (25, op_aload 0 26),
  (26, op_slen scr 27),
  (27, op_push (.int 6) 29),
  (29, op_ii (fun x y => x - y) 30),
  (30, op_icmp (fun x y => y < x) 1671 33),
  (33, op_aload 0 34),
  (34, op_iload 4 36),
  (36, op_sld scr 37),
  (37, op_push (.int 31) 39),
  (39, op_ii (fun x y => x &&& y) 40),
  (40, op_switch 1665 [136, 216, 296, 352, 432, 507, 575, 643, 699, 766, 877, 957, 1041, 1101, 1181, 1229, 1304, 1403, 1458, 1561])]
set_option maxRecDepth 100000 in
set_option maxHeartbeats 4000000 in
theorem s_l00 (scr : Nat → Nat → (Nat → Int32) → Prop) : ∀ x ∈ k_l00 scr, ac_So M_L_law scr x.1 x.2 :=
  ac_cons (so_new (ci := 8) (ty := tyX5) rfl in_X5 tyX5_ok df_X5 rfl dL_law_0 wd_46 wd_47 wd_24 rfl) <|
  ac_cons (so_dup dL_law_3 rfl) <|
  ac_cons (so_callI (N := M_X5_init) C_X5_init rfl rfl ⟨wd_50, wd_24, dy_X5_init, ⟨by decide, by decide⟩, tb_L_law⟩ dL_law_4 wd_48 wd_49 rfl rfl) <|
  ac_cons (so_astore_n dL_law_7 rfl rfl) <|
  ac_cons (so_new (ci := 9) (ty := tyX6) rfl in_X6 tyX6_ok df_X6 rfl dL_law_8 wd_625 wd_626 wd_25 rfl) <|
  ac_cons (so_dup dL_law_11 rfl) <|
  ac_cons (so_callI (N := M_X6_init) C_X6_init rfl rfl ⟨wd_629, wd_25, dy_X6_init, ⟨by decide, by decide⟩, tb_L_law⟩ dL_law_12 wd_627 wd_628 rfl rfl) <|
  ac_cons (so_astore_n dL_law_15 rfl rfl) <|
  ac_cons (so_iconst dL_law_16 (by decide +kernel) rfl) <|
  ac_cons (so_newJ wd_211 dL_law_17 rfl) <|
  ac_cons (so_astore_n dL_law_19 rfl rfl) <|
  ac_cons (so_iconst dL_law_20 (by decide +kernel) rfl) <|
  ac_cons (so_istore dL_law_21 rfl) <|
  ac_cons (so_iload dL_law_23 rfl) <|
  ac_cons (so_aload_n dL_law_25 rfl rfl) <|
  ac_cons (so_slen dL_law_26 rfl) <|
  ac_cons (so_bipush dL_law_27 (by decide +kernel) rfl) <|
  ac_cons (so_isub dL_law_29 rfl) <|
  ac_cons (so_icmp_gt dL_law_30 (by decide) rfl) <|
  ac_cons (so_aload_n dL_law_33 rfl rfl) <|
  ac_cons (so_iload dL_law_34 rfl) <|
  ac_cons (so_sld dL_law_36 rfl) <|
  ac_cons (so_bipush dL_law_37 (by decide +kernel) rfl) <|
  ac_cons (so_iand dL_law_39 rfl) <|
  ac_cons (so_switch dL_law_40 (by decide) (by decide) (by decide) (by decide)) <| ac_nil
def k_l01 (scr : Nat → Nat → (Nat → Int32) → Prop) : List (Nat × ac_op) := [(136, op_aload 1 137),
  (137, op_aload 0 138),
  (138, op_iload 4 140),
  (140, op_push (.int 1) 141),
  (141, op_ii (fun x y => x + y) 142),
  (142, op_sld scr 143),
  (143, op_aload 0 144),
  (144, op_iload 4 146),
  (146, op_push (.int 2) 147),
  (147, op_ii (fun x y => x + y) 148),
  (148, op_sld scr 149),
  (149, op_aload 0 150),
  (150, op_iload 4 152),
  (152, op_push (.int 3) 153),
  (153, op_ii (fun x y => x + y) 154),
  (154, op_sld scr 155),
  (155, op_aload 3 156),
  (156, op_callS rm_L_law [] T_L_make rm_L_make 5 156 159),
  (159, op_istore 5 161),
  (161, op_aload 2 162),
  (162, op_aload 0 163),
  (163, op_iload 4 165),
  (165, op_push (.int 1) 166),
  (166, op_ii (fun x y => x + y) 167),
  (167, op_sld scr 168),
  (168, op_aload 0 169),
  (169, op_iload 4 171),
  (171, op_push (.int 2) 172),
  (172, op_ii (fun x y => x + y) 173),
  (173, op_sld scr 174),
  (174, op_aload 0 175),
  (175, op_iload 4 177),
  (177, op_push (.int 3) 178),
  (178, op_ii (fun x y => x + y) 179),
  (179, op_sld scr 180),
  (180, op_callV rm_L_law [] 9 T_X6_make rm_X6_make 3 180 183),
  (183, op_istore 6 185),
  (185, op_aload 2 186),
  (186, op_callV rm_L_law [] 9 T_X6_thrown rm_X6_thrown 0 186 189),
  (189, op_iload 5 191),
  (191, op_icmp (fun x y => x = y) 196 194),
  (194, op_push (.int 0) 195),
  (195, op_zreturn rm_L_law),
  (196, op_iload 5 198),
  (198, op_if (fun x => ¬ x = 0) 213 201),
  (201, op_aload 3 202),
  (202, op_push (.int 0) 203),
  (203, op_lald 204),
  (204, op_iload 6 206),
  (206, op_i (fun x => .long x.toInt64) 207),
  (207, op_lcmp 208),
  (208, op_if (fun x => x = 0) 213 211),
  (211, op_push (.int 0) 212),
  (212, op_zreturn rm_L_law),
  (213, op_goto 1665)]
set_option maxRecDepth 100000 in
set_option maxHeartbeats 4000000 in
theorem s_l01 (scr : Nat → Nat → (Nat → Int32) → Prop) : ∀ x ∈ k_l01 scr, ac_So M_L_law scr x.1 x.2 :=
  ac_cons (so_aload_n dL_law_136 rfl rfl) <|
  ac_cons (so_aload_n dL_law_137 rfl rfl) <|
  ac_cons (so_iload dL_law_138 rfl) <|
  ac_cons (so_iconst dL_law_140 (by decide +kernel) rfl) <|
  ac_cons (so_iadd dL_law_141 rfl) <|
  ac_cons (so_sld dL_law_142 rfl) <|
  ac_cons (so_aload_n dL_law_143 rfl rfl) <|
  ac_cons (so_iload dL_law_144 rfl) <|
  ac_cons (so_iconst dL_law_146 (by decide +kernel) rfl) <|
  ac_cons (so_iadd dL_law_147 rfl) <|
  ac_cons (so_sld dL_law_148 rfl) <|
  ac_cons (so_aload_n dL_law_149 rfl rfl) <|
  ac_cons (so_iload dL_law_150 rfl) <|
  ac_cons (so_iconst dL_law_152 (by decide +kernel) rfl) <|
  ac_cons (so_iadd dL_law_153 rfl) <|
  ac_cons (so_sld dL_law_154 rfl) <|
  ac_cons (so_aload_n dL_law_155 rfl rfl) <|
  ac_cons (so_callSX (N := M_L_make) C_L_make rfl ⟨wd_65, wd_23, dy_L_make, ⟨by decide, by decide⟩, tb_L_law⟩ dL_law_156 wd_63 wd_64 rfl) <|
  ac_cons (so_istore dL_law_159 rfl) <|
  ac_cons (so_aload_n dL_law_161 rfl rfl) <|
  ac_cons (so_aload_n dL_law_162 rfl rfl) <|
  ac_cons (so_iload dL_law_163 rfl) <|
  ac_cons (so_iconst dL_law_165 (by decide +kernel) rfl) <|
  ac_cons (so_iadd dL_law_166 rfl) <|
  ac_cons (so_sld dL_law_167 rfl) <|
  ac_cons (so_aload_n dL_law_168 rfl rfl) <|
  ac_cons (so_iload dL_law_169 rfl) <|
  ac_cons (so_iconst dL_law_171 (by decide +kernel) rfl) <|
  ac_cons (so_iadd dL_law_172 rfl) <|
  ac_cons (so_sld dL_law_173 rfl) <|
  ac_cons (so_aload_n dL_law_174 rfl rfl) <|
  ac_cons (so_iload dL_law_175 rfl) <|
  ac_cons (so_iconst dL_law_177 (by decide +kernel) rfl) <|
  ac_cons (so_iadd dL_law_178 rfl) <|
  ac_cons (so_sld dL_law_179 rfl) <|
  ac_cons (so_callV (N := M_X6_make) (ci := 9) C_X6_make rfl ⟨wd_676, wd_25, dy_X6_make, ⟨by decide, by decide⟩, tb_L_law⟩ rfl dL_law_180 wd_673 wd_674 wd_675 rfl) <|
  ac_cons (so_istore dL_law_183 rfl) <|
  ac_cons (so_aload_n dL_law_185 rfl rfl) <|
  ac_cons (so_callV (N := M_X6_thrown) (ci := 9) C_X6_thrown rfl ⟨wd_672, wd_25, dy_X6_thrown, ⟨by decide, by decide⟩, tb_L_law⟩ rfl dL_law_186 wd_669 wd_670 wd_671 rfl) <|
  ac_cons (so_iload dL_law_189 rfl) <|
  ac_cons (so_icmp_eq dL_law_191 (by decide) rfl) <|
  ac_cons (so_iconst dL_law_194 (by decide +kernel) rfl) <|
  ac_cons (so_zreturn rfl dL_law_195) <|
  ac_cons (so_iload dL_law_196 rfl) <|
  ac_cons (so_if_ne dL_law_198 (by decide) rfl) <|
  ac_cons (so_aload_n dL_law_201 rfl rfl) <|
  ac_cons (so_iconst dL_law_202 (by decide +kernel) rfl) <|
  ac_cons (so_lald dL_law_203 rfl) <|
  ac_cons (so_iload dL_law_204 rfl) <|
  ac_cons (so_i2l dL_law_206 rfl) <|
  ac_cons (so_lcmp dL_law_207 rfl) <|
  ac_cons (so_if_eq dL_law_208 (by decide) rfl) <|
  ac_cons (so_iconst dL_law_211 (by decide +kernel) rfl) <|
  ac_cons (so_zreturn rfl dL_law_212) <|
  ac_cons (so_goto dL_law_213 (by decide)) <| ac_nil
def k_l02 (scr : Nat → Nat → (Nat → Int32) → Prop) : List (Nat × ac_op) := [(216, op_aload 1 217),
  (217, op_aload 0 218),
  (218, op_iload 4 220),
  (220, op_push (.int 1) 221),
  (221, op_ii (fun x y => x + y) 222),
  (222, op_sld scr 223),
  (223, op_aload 0 224),
  (224, op_iload 4 226),
  (226, op_push (.int 2) 227),
  (227, op_ii (fun x y => x + y) 228),
  (228, op_sld scr 229),
  (229, op_aload 0 230),
  (230, op_iload 4 232),
  (232, op_push (.int 3) 233),
  (233, op_ii (fun x y => x + y) 234),
  (234, op_sld scr 235),
  (235, op_aload 3 236),
  (236, op_callS rm_L_law [] T_L_grid rm_L_grid 5 236 239),
  (239, op_istore 5 241),
  (241, op_aload 2 242),
  (242, op_aload 0 243),
  (243, op_iload 4 245),
  (245, op_push (.int 1) 246),
  (246, op_ii (fun x y => x + y) 247),
  (247, op_sld scr 248),
  (248, op_aload 0 249),
  (249, op_iload 4 251),
  (251, op_push (.int 2) 252),
  (252, op_ii (fun x y => x + y) 253),
  (253, op_sld scr 254),
  (254, op_aload 0 255),
  (255, op_iload 4 257),
  (257, op_push (.int 3) 258),
  (258, op_ii (fun x y => x + y) 259),
  (259, op_sld scr 260),
  (260, op_callV rm_L_law [] 9 T_X6_grid rm_X6_grid 3 260 263),
  (263, op_istore 6 265),
  (265, op_aload 2 266),
  (266, op_callV rm_L_law [] 9 T_X6_thrown rm_X6_thrown 0 266 269),
  (269, op_iload 5 271),
  (271, op_icmp (fun x y => x = y) 276 274),
  (274, op_push (.int 0) 275),
  (275, op_zreturn rm_L_law),
  (276, op_iload 5 278),
  (278, op_if (fun x => ¬ x = 0) 293 281),
  (281, op_aload 3 282),
  (282, op_push (.int 0) 283),
  (283, op_lald 284),
  (284, op_iload 6 286),
  (286, op_i (fun x => .long x.toInt64) 287),
  (287, op_lcmp 288),
  (288, op_if (fun x => x = 0) 293 291),
  (291, op_push (.int 0) 292),
  (292, op_zreturn rm_L_law),
  (293, op_goto 1665)]
set_option maxRecDepth 100000 in
set_option maxHeartbeats 4000000 in
theorem s_l02 (scr : Nat → Nat → (Nat → Int32) → Prop) : ∀ x ∈ k_l02 scr, ac_So M_L_law scr x.1 x.2 :=
  ac_cons (so_aload_n dL_law_216 rfl rfl) <|
  ac_cons (so_aload_n dL_law_217 rfl rfl) <|
  ac_cons (so_iload dL_law_218 rfl) <|
  ac_cons (so_iconst dL_law_220 (by decide +kernel) rfl) <|
  ac_cons (so_iadd dL_law_221 rfl) <|
  ac_cons (so_sld dL_law_222 rfl) <|
  ac_cons (so_aload_n dL_law_223 rfl rfl) <|
  ac_cons (so_iload dL_law_224 rfl) <|
  ac_cons (so_iconst dL_law_226 (by decide +kernel) rfl) <|
  ac_cons (so_iadd dL_law_227 rfl) <|
  ac_cons (so_sld dL_law_228 rfl) <|
  ac_cons (so_aload_n dL_law_229 rfl rfl) <|
  ac_cons (so_iload dL_law_230 rfl) <|
  ac_cons (so_iconst dL_law_232 (by decide +kernel) rfl) <|
  ac_cons (so_iadd dL_law_233 rfl) <|
  ac_cons (so_sld dL_law_234 rfl) <|
  ac_cons (so_aload_n dL_law_235 rfl rfl) <|
  ac_cons (so_callSX (N := M_L_grid) C_L_grid rfl ⟨wd_218, wd_23, dy_L_grid, ⟨by decide, by decide⟩, tb_L_law⟩ dL_law_236 wd_216 wd_217 rfl) <|
  ac_cons (so_istore dL_law_239 rfl) <|
  ac_cons (so_aload_n dL_law_241 rfl rfl) <|
  ac_cons (so_aload_n dL_law_242 rfl rfl) <|
  ac_cons (so_iload dL_law_243 rfl) <|
  ac_cons (so_iconst dL_law_245 (by decide +kernel) rfl) <|
  ac_cons (so_iadd dL_law_246 rfl) <|
  ac_cons (so_sld dL_law_247 rfl) <|
  ac_cons (so_aload_n dL_law_248 rfl rfl) <|
  ac_cons (so_iload dL_law_249 rfl) <|
  ac_cons (so_iconst dL_law_251 (by decide +kernel) rfl) <|
  ac_cons (so_iadd dL_law_252 rfl) <|
  ac_cons (so_sld dL_law_253 rfl) <|
  ac_cons (so_aload_n dL_law_254 rfl rfl) <|
  ac_cons (so_iload dL_law_255 rfl) <|
  ac_cons (so_iconst dL_law_257 (by decide +kernel) rfl) <|
  ac_cons (so_iadd dL_law_258 rfl) <|
  ac_cons (so_sld dL_law_259 rfl) <|
  ac_cons (so_callV (N := M_X6_grid) (ci := 9) C_X6_grid rfl ⟨wd_692, wd_25, dy_X6_grid, ⟨by decide, by decide⟩, tb_L_law⟩ rfl dL_law_260 wd_689 wd_690 wd_691 rfl) <|
  ac_cons (so_istore dL_law_263 rfl) <|
  ac_cons (so_aload_n dL_law_265 rfl rfl) <|
  ac_cons (so_callV (N := M_X6_thrown) (ci := 9) C_X6_thrown rfl ⟨wd_672, wd_25, dy_X6_thrown, ⟨by decide, by decide⟩, tb_L_law⟩ rfl dL_law_266 wd_669 wd_670 wd_671 rfl) <|
  ac_cons (so_iload dL_law_269 rfl) <|
  ac_cons (so_icmp_eq dL_law_271 (by decide) rfl) <|
  ac_cons (so_iconst dL_law_274 (by decide +kernel) rfl) <|
  ac_cons (so_zreturn rfl dL_law_275) <|
  ac_cons (so_iload dL_law_276 rfl) <|
  ac_cons (so_if_ne dL_law_278 (by decide) rfl) <|
  ac_cons (so_aload_n dL_law_281 rfl rfl) <|
  ac_cons (so_iconst dL_law_282 (by decide +kernel) rfl) <|
  ac_cons (so_lald dL_law_283 rfl) <|
  ac_cons (so_iload dL_law_284 rfl) <|
  ac_cons (so_i2l dL_law_286 rfl) <|
  ac_cons (so_lcmp dL_law_287 rfl) <|
  ac_cons (so_if_eq dL_law_288 (by decide) rfl) <|
  ac_cons (so_iconst dL_law_291 (by decide +kernel) rfl) <|
  ac_cons (so_zreturn rfl dL_law_292) <|
  ac_cons (so_goto dL_law_293 (by decide)) <| ac_nil
def k_l03 (scr : Nat → Nat → (Nat → Int32) → Prop) : List (Nat × ac_op) := [(296, op_aload 1 297),
  (297, op_aload 0 298),
  (298, op_iload 4 300),
  (300, op_push (.int 1) 301),
  (301, op_ii (fun x y => x + y) 302),
  (302, op_sld scr 303),
  (303, op_aload 3 304),
  (304, op_callS rm_L_law [] T_L_record rm_L_record 3 304 307),
  (307, op_istore 5 309),
  (309, op_aload 2 310),
  (310, op_aload 0 311),
  (311, op_iload 4 313),
  (313, op_push (.int 1) 314),
  (314, op_ii (fun x y => x + y) 315),
  (315, op_sld scr 316),
  (316, op_callV rm_L_law [] 9 T_X6_record rm_X6_record 1 316 319),
  (319, op_istore 6 321),
  (321, op_aload 2 322),
  (322, op_callV rm_L_law [] 9 T_X6_thrown rm_X6_thrown 0 322 325),
  (325, op_iload 5 327),
  (327, op_icmp (fun x y => x = y) 332 330),
  (330, op_push (.int 0) 331),
  (331, op_zreturn rm_L_law),
  (332, op_iload 5 334),
  (334, op_if (fun x => ¬ x = 0) 349 337),
  (337, op_aload 3 338),
  (338, op_push (.int 0) 339),
  (339, op_lald 340),
  (340, op_iload 6 342),
  (342, op_i (fun x => .long x.toInt64) 343),
  (343, op_lcmp 344),
  (344, op_if (fun x => x = 0) 349 347),
  (347, op_push (.int 0) 348),
  (348, op_zreturn rm_L_law),
  (349, op_goto 1665)]
set_option maxRecDepth 100000 in
set_option maxHeartbeats 4000000 in
theorem s_l03 (scr : Nat → Nat → (Nat → Int32) → Prop) : ∀ x ∈ k_l03 scr, ac_So M_L_law scr x.1 x.2 :=
  ac_cons (so_aload_n dL_law_296 rfl rfl) <|
  ac_cons (so_aload_n dL_law_297 rfl rfl) <|
  ac_cons (so_iload dL_law_298 rfl) <|
  ac_cons (so_iconst dL_law_300 (by decide +kernel) rfl) <|
  ac_cons (so_iadd dL_law_301 rfl) <|
  ac_cons (so_sld dL_law_302 rfl) <|
  ac_cons (so_aload_n dL_law_303 rfl rfl) <|
  ac_cons (so_callSX (N := M_L_record) C_L_record rfl ⟨wd_238, wd_23, dy_L_record, ⟨by decide, by decide⟩, tb_L_law⟩ dL_law_304 wd_236 wd_237 rfl) <|
  ac_cons (so_istore dL_law_307 rfl) <|
  ac_cons (so_aload_n dL_law_309 rfl rfl) <|
  ac_cons (so_aload_n dL_law_310 rfl rfl) <|
  ac_cons (so_iload dL_law_311 rfl) <|
  ac_cons (so_iconst dL_law_313 (by decide +kernel) rfl) <|
  ac_cons (so_iadd dL_law_314 rfl) <|
  ac_cons (so_sld dL_law_315 rfl) <|
  ac_cons (so_callV (N := M_X6_record) (ci := 9) C_X6_record rfl ⟨wd_696, wd_25, dy_X6_record, ⟨by decide, by decide⟩, tb_L_law⟩ rfl dL_law_316 wd_693 wd_694 wd_695 rfl) <|
  ac_cons (so_istore dL_law_319 rfl) <|
  ac_cons (so_aload_n dL_law_321 rfl rfl) <|
  ac_cons (so_callV (N := M_X6_thrown) (ci := 9) C_X6_thrown rfl ⟨wd_672, wd_25, dy_X6_thrown, ⟨by decide, by decide⟩, tb_L_law⟩ rfl dL_law_322 wd_669 wd_670 wd_671 rfl) <|
  ac_cons (so_iload dL_law_325 rfl) <|
  ac_cons (so_icmp_eq dL_law_327 (by decide) rfl) <|
  ac_cons (so_iconst dL_law_330 (by decide +kernel) rfl) <|
  ac_cons (so_zreturn rfl dL_law_331) <|
  ac_cons (so_iload dL_law_332 rfl) <|
  ac_cons (so_if_ne dL_law_334 (by decide) rfl) <|
  ac_cons (so_aload_n dL_law_337 rfl rfl) <|
  ac_cons (so_iconst dL_law_338 (by decide +kernel) rfl) <|
  ac_cons (so_lald dL_law_339 rfl) <|
  ac_cons (so_iload dL_law_340 rfl) <|
  ac_cons (so_i2l dL_law_342 rfl) <|
  ac_cons (so_lcmp dL_law_343 rfl) <|
  ac_cons (so_if_eq dL_law_344 (by decide) rfl) <|
  ac_cons (so_iconst dL_law_347 (by decide +kernel) rfl) <|
  ac_cons (so_zreturn rfl dL_law_348) <|
  ac_cons (so_goto dL_law_349 (by decide)) <| ac_nil
def k_l04 (scr : Nat → Nat → (Nat → Int32) → Prop) : List (Nat × ac_op) := [(352, op_aload 1 353),
  (353, op_aload 0 354),
  (354, op_iload 4 356),
  (356, op_push (.int 1) 357),
  (357, op_ii (fun x y => x + y) 358),
  (358, op_sld scr 359),
  (359, op_aload 0 360),
  (360, op_iload 4 362),
  (362, op_push (.int 2) 363),
  (363, op_ii (fun x y => x + y) 364),
  (364, op_sld scr 365),
  (365, op_aload 0 366),
  (366, op_iload 4 368),
  (368, op_push (.int 3) 369),
  (369, op_ii (fun x y => x + y) 370),
  (370, op_sld scr 371),
  (371, op_aload 3 372),
  (372, op_callS rm_L_law [] T_L_window rm_L_window 5 372 375),
  (375, op_istore 5 377),
  (377, op_aload 2 378),
  (378, op_aload 0 379),
  (379, op_iload 4 381),
  (381, op_push (.int 1) 382),
  (382, op_ii (fun x y => x + y) 383),
  (383, op_sld scr 384),
  (384, op_aload 0 385),
  (385, op_iload 4 387),
  (387, op_push (.int 2) 388),
  (388, op_ii (fun x y => x + y) 389),
  (389, op_sld scr 390),
  (390, op_aload 0 391),
  (391, op_iload 4 393),
  (393, op_push (.int 3) 394),
  (394, op_ii (fun x y => x + y) 395),
  (395, op_sld scr 396),
  (396, op_callV rm_L_law [] 9 T_X6_window rm_X6_window 3 396 399),
  (399, op_istore 6 401),
  (401, op_aload 2 402),
  (402, op_callV rm_L_law [] 9 T_X6_thrown rm_X6_thrown 0 402 405),
  (405, op_iload 5 407),
  (407, op_icmp (fun x y => x = y) 412 410),
  (410, op_push (.int 0) 411),
  (411, op_zreturn rm_L_law),
  (412, op_iload 5 414),
  (414, op_if (fun x => ¬ x = 0) 429 417),
  (417, op_aload 3 418),
  (418, op_push (.int 0) 419),
  (419, op_lald 420),
  (420, op_iload 6 422),
  (422, op_i (fun x => .long x.toInt64) 423),
  (423, op_lcmp 424),
  (424, op_if (fun x => x = 0) 429 427),
  (427, op_push (.int 0) 428),
  (428, op_zreturn rm_L_law),
  (429, op_goto 1665)]
set_option maxRecDepth 100000 in
set_option maxHeartbeats 4000000 in
theorem s_l04 (scr : Nat → Nat → (Nat → Int32) → Prop) : ∀ x ∈ k_l04 scr, ac_So M_L_law scr x.1 x.2 :=
  ac_cons (so_aload_n dL_law_352 rfl rfl) <|
  ac_cons (so_aload_n dL_law_353 rfl rfl) <|
  ac_cons (so_iload dL_law_354 rfl) <|
  ac_cons (so_iconst dL_law_356 (by decide +kernel) rfl) <|
  ac_cons (so_iadd dL_law_357 rfl) <|
  ac_cons (so_sld dL_law_358 rfl) <|
  ac_cons (so_aload_n dL_law_359 rfl rfl) <|
  ac_cons (so_iload dL_law_360 rfl) <|
  ac_cons (so_iconst dL_law_362 (by decide +kernel) rfl) <|
  ac_cons (so_iadd dL_law_363 rfl) <|
  ac_cons (so_sld dL_law_364 rfl) <|
  ac_cons (so_aload_n dL_law_365 rfl rfl) <|
  ac_cons (so_iload dL_law_366 rfl) <|
  ac_cons (so_iconst dL_law_368 (by decide +kernel) rfl) <|
  ac_cons (so_iadd dL_law_369 rfl) <|
  ac_cons (so_sld dL_law_370 rfl) <|
  ac_cons (so_aload_n dL_law_371 rfl rfl) <|
  ac_cons (so_callSX (N := M_L_window) C_L_window rfl ⟨wd_260, wd_23, dy_L_window, ⟨by decide, by decide⟩, tb_L_law⟩ dL_law_372 wd_258 wd_259 rfl) <|
  ac_cons (so_istore dL_law_375 rfl) <|
  ac_cons (so_aload_n dL_law_377 rfl rfl) <|
  ac_cons (so_aload_n dL_law_378 rfl rfl) <|
  ac_cons (so_iload dL_law_379 rfl) <|
  ac_cons (so_iconst dL_law_381 (by decide +kernel) rfl) <|
  ac_cons (so_iadd dL_law_382 rfl) <|
  ac_cons (so_sld dL_law_383 rfl) <|
  ac_cons (so_aload_n dL_law_384 rfl rfl) <|
  ac_cons (so_iload dL_law_385 rfl) <|
  ac_cons (so_iconst dL_law_387 (by decide +kernel) rfl) <|
  ac_cons (so_iadd dL_law_388 rfl) <|
  ac_cons (so_sld dL_law_389 rfl) <|
  ac_cons (so_aload_n dL_law_390 rfl rfl) <|
  ac_cons (so_iload dL_law_391 rfl) <|
  ac_cons (so_iconst dL_law_393 (by decide +kernel) rfl) <|
  ac_cons (so_iadd dL_law_394 rfl) <|
  ac_cons (so_sld dL_law_395 rfl) <|
  ac_cons (so_callV (N := M_X6_window) (ci := 9) C_X6_window rfl ⟨wd_700, wd_25, dy_X6_window, ⟨by decide, by decide⟩, tb_L_law⟩ rfl dL_law_396 wd_697 wd_698 wd_699 rfl) <|
  ac_cons (so_istore dL_law_399 rfl) <|
  ac_cons (so_aload_n dL_law_401 rfl rfl) <|
  ac_cons (so_callV (N := M_X6_thrown) (ci := 9) C_X6_thrown rfl ⟨wd_672, wd_25, dy_X6_thrown, ⟨by decide, by decide⟩, tb_L_law⟩ rfl dL_law_402 wd_669 wd_670 wd_671 rfl) <|
  ac_cons (so_iload dL_law_405 rfl) <|
  ac_cons (so_icmp_eq dL_law_407 (by decide) rfl) <|
  ac_cons (so_iconst dL_law_410 (by decide +kernel) rfl) <|
  ac_cons (so_zreturn rfl dL_law_411) <|
  ac_cons (so_iload dL_law_412 rfl) <|
  ac_cons (so_if_ne dL_law_414 (by decide) rfl) <|
  ac_cons (so_aload_n dL_law_417 rfl rfl) <|
  ac_cons (so_iconst dL_law_418 (by decide +kernel) rfl) <|
  ac_cons (so_lald dL_law_419 rfl) <|
  ac_cons (so_iload dL_law_420 rfl) <|
  ac_cons (so_i2l dL_law_422 rfl) <|
  ac_cons (so_lcmp dL_law_423 rfl) <|
  ac_cons (so_if_eq dL_law_424 (by decide) rfl) <|
  ac_cons (so_iconst dL_law_427 (by decide +kernel) rfl) <|
  ac_cons (so_zreturn rfl dL_law_428) <|
  ac_cons (so_goto dL_law_429 (by decide)) <| ac_nil
def k_l05 (scr : Nat → Nat → (Nat → Int32) → Prop) : List (Nat × ac_op) := [(432, op_aload 1 433),
  (433, op_aload 0 434),
  (434, op_iload 4 436),
  (436, op_push (.int 1) 437),
  (437, op_ii (fun x y => x + y) 438),
  (438, op_sld scr 439),
  (439, op_aload 0 440),
  (440, op_iload 4 442),
  (442, op_push (.int 2) 443),
  (443, op_ii (fun x y => x + y) 444),
  (444, op_sld scr 445),
  (445, op_aload 3 446),
  (446, op_callS rm_L_law [] T_L_copy rm_L_copy 4 446 449),
  (449, op_istore 5 451),
  (451, op_aload 2 452),
  (452, op_aload 0 453),
  (453, op_iload 4 455),
  (455, op_push (.int 1) 456),
  (456, op_ii (fun x y => x + y) 457),
  (457, op_sld scr 458),
  (458, op_aload 0 459),
  (459, op_iload 4 461),
  (461, op_push (.int 2) 462),
  (462, op_ii (fun x y => x + y) 463),
  (463, op_sld scr 464),
  (464, op_callV rm_L_law [] 9 T_X6_copy rm_X6_copy 2 464 467),
  (467, op_istore 6 469),
  (469, op_aload 2 470),
  (470, op_callV rm_L_law [] 9 T_X6_thrown rm_X6_thrown 0 470 473),
  (473, op_iload 5 475),
  (475, op_icmp (fun x y => x = y) 480 478),
  (478, op_push (.int 0) 479),
  (479, op_zreturn rm_L_law),
  (480, op_iload 5 482),
  (482, op_if (fun x => ¬ x = 0) 504 485),
  (485, op_aload 3 486),
  (486, op_push (.int 0) 487),
  (487, op_lald 488),
  (488, op_iload 6 490),
  (490, op_if (fun x => x = 0) 497 493),
  (493, op_push (.long 1) 494),
  (494, op_goto 498),
  (497, op_push (.long 0) 498),
  (498, op_lcmp 499),
  (499, op_if (fun x => x = 0) 504 502),
  (502, op_push (.int 0) 503),
  (503, op_zreturn rm_L_law),
  (504, op_goto 1665)]
set_option maxRecDepth 100000 in
set_option maxHeartbeats 4000000 in
theorem s_l05 (scr : Nat → Nat → (Nat → Int32) → Prop) : ∀ x ∈ k_l05 scr, ac_So M_L_law scr x.1 x.2 :=
  ac_cons (so_aload_n dL_law_432 rfl rfl) <|
  ac_cons (so_aload_n dL_law_433 rfl rfl) <|
  ac_cons (so_iload dL_law_434 rfl) <|
  ac_cons (so_iconst dL_law_436 (by decide +kernel) rfl) <|
  ac_cons (so_iadd dL_law_437 rfl) <|
  ac_cons (so_sld dL_law_438 rfl) <|
  ac_cons (so_aload_n dL_law_439 rfl rfl) <|
  ac_cons (so_iload dL_law_440 rfl) <|
  ac_cons (so_iconst dL_law_442 (by decide +kernel) rfl) <|
  ac_cons (so_iadd dL_law_443 rfl) <|
  ac_cons (so_sld dL_law_444 rfl) <|
  ac_cons (so_aload_n dL_law_445 rfl rfl) <|
  ac_cons (so_callSX (N := M_L_copy) C_L_copy rfl ⟨wd_377, wd_23, dy_L_copy, ⟨by decide, by decide⟩, tb_L_law⟩ dL_law_446 wd_375 wd_376 rfl) <|
  ac_cons (so_istore dL_law_449 rfl) <|
  ac_cons (so_aload_n dL_law_451 rfl rfl) <|
  ac_cons (so_aload_n dL_law_452 rfl rfl) <|
  ac_cons (so_iload dL_law_453 rfl) <|
  ac_cons (so_iconst dL_law_455 (by decide +kernel) rfl) <|
  ac_cons (so_iadd dL_law_456 rfl) <|
  ac_cons (so_sld dL_law_457 rfl) <|
  ac_cons (so_aload_n dL_law_458 rfl rfl) <|
  ac_cons (so_iload dL_law_459 rfl) <|
  ac_cons (so_iconst dL_law_461 (by decide +kernel) rfl) <|
  ac_cons (so_iadd dL_law_462 rfl) <|
  ac_cons (so_sld dL_law_463 rfl) <|
  ac_cons (so_callV (N := M_X6_copy) (ci := 9) C_X6_copy rfl ⟨wd_712, wd_25, dy_X6_copy, ⟨by decide, by decide⟩, tb_L_law⟩ rfl dL_law_464 wd_709 wd_710 wd_711 rfl) <|
  ac_cons (so_istore dL_law_467 rfl) <|
  ac_cons (so_aload_n dL_law_469 rfl rfl) <|
  ac_cons (so_callV (N := M_X6_thrown) (ci := 9) C_X6_thrown rfl ⟨wd_672, wd_25, dy_X6_thrown, ⟨by decide, by decide⟩, tb_L_law⟩ rfl dL_law_470 wd_669 wd_670 wd_671 rfl) <|
  ac_cons (so_iload dL_law_473 rfl) <|
  ac_cons (so_icmp_eq dL_law_475 (by decide) rfl) <|
  ac_cons (so_iconst dL_law_478 (by decide +kernel) rfl) <|
  ac_cons (so_zreturn rfl dL_law_479) <|
  ac_cons (so_iload dL_law_480 rfl) <|
  ac_cons (so_if_ne dL_law_482 (by decide) rfl) <|
  ac_cons (so_aload_n dL_law_485 rfl rfl) <|
  ac_cons (so_iconst dL_law_486 (by decide +kernel) rfl) <|
  ac_cons (so_lald dL_law_487 rfl) <|
  ac_cons (so_iload dL_law_488 rfl) <|
  ac_cons (so_if_eq dL_law_490 (by decide) rfl) <|
  ac_cons (so_lconst dL_law_493 (by decide +kernel) rfl) <|
  ac_cons (so_goto dL_law_494 (by decide)) <|
  ac_cons (so_lconst dL_law_497 (by decide +kernel) rfl) <|
  ac_cons (so_lcmp dL_law_498 rfl) <|
  ac_cons (so_if_eq dL_law_499 (by decide) rfl) <|
  ac_cons (so_iconst dL_law_502 (by decide +kernel) rfl) <|
  ac_cons (so_zreturn rfl dL_law_503) <|
  ac_cons (so_goto dL_law_504 (by decide)) <| ac_nil
def k_l06 (scr : Nat → Nat → (Nat → Int32) → Prop) : List (Nat × ac_op) := [(507, op_aload 1 508),
  (508, op_aload 0 509),
  (509, op_iload 4 511),
  (511, op_push (.int 1) 512),
  (512, op_ii (fun x y => x + y) 513),
  (513, op_sld scr 514),
  (514, op_aload 0 515),
  (515, op_iload 4 517),
  (517, op_push (.int 2) 518),
  (518, op_ii (fun x y => x + y) 519),
  (519, op_sld scr 520),
  (520, op_aload 3 521),
  (521, op_callS rm_L_law [] T_L_lose rm_L_lose 4 521 524),
  (524, op_istore 5 526),
  (526, op_aload 2 527),
  (527, op_aload 0 528),
  (528, op_iload 4 530),
  (530, op_push (.int 1) 531),
  (531, op_ii (fun x y => x + y) 532),
  (532, op_sld scr 533),
  (533, op_aload 0 534),
  (534, op_iload 4 536),
  (536, op_push (.int 2) 537),
  (537, op_ii (fun x y => x + y) 538),
  (538, op_sld scr 539),
  (539, op_callV rm_L_law [] 9 T_X6_lose rm_X6_lose 2 539 542),
  (542, op_istore 6 544),
  (544, op_aload 2 545),
  (545, op_callV rm_L_law [] 9 T_X6_thrown rm_X6_thrown 0 545 548),
  (548, op_iload 5 550),
  (550, op_icmp (fun x y => x = y) 555 553),
  (553, op_push (.int 0) 554),
  (554, op_zreturn rm_L_law),
  (555, op_iload 5 557),
  (557, op_if (fun x => ¬ x = 0) 572 560),
  (560, op_aload 3 561),
  (561, op_push (.int 0) 562),
  (562, op_lald 563),
  (563, op_iload 6 565),
  (565, op_i (fun x => .long x.toInt64) 566),
  (566, op_lcmp 567),
  (567, op_if (fun x => x = 0) 572 570),
  (570, op_push (.int 0) 571),
  (571, op_zreturn rm_L_law),
  (572, op_goto 1665)]
set_option maxRecDepth 100000 in
set_option maxHeartbeats 4000000 in
theorem s_l06 (scr : Nat → Nat → (Nat → Int32) → Prop) : ∀ x ∈ k_l06 scr, ac_So M_L_law scr x.1 x.2 :=
  ac_cons (so_aload_n dL_law_507 rfl rfl) <|
  ac_cons (so_aload_n dL_law_508 rfl rfl) <|
  ac_cons (so_iload dL_law_509 rfl) <|
  ac_cons (so_iconst dL_law_511 (by decide +kernel) rfl) <|
  ac_cons (so_iadd dL_law_512 rfl) <|
  ac_cons (so_sld dL_law_513 rfl) <|
  ac_cons (so_aload_n dL_law_514 rfl rfl) <|
  ac_cons (so_iload dL_law_515 rfl) <|
  ac_cons (so_iconst dL_law_517 (by decide +kernel) rfl) <|
  ac_cons (so_iadd dL_law_518 rfl) <|
  ac_cons (so_sld dL_law_519 rfl) <|
  ac_cons (so_aload_n dL_law_520 rfl rfl) <|
  ac_cons (so_callSX (N := M_L_lose) C_L_lose rfl ⟨wd_384, wd_23, dy_L_lose, ⟨by decide, by decide⟩, tb_L_law⟩ dL_law_521 wd_382 wd_383 rfl) <|
  ac_cons (so_istore dL_law_524 rfl) <|
  ac_cons (so_aload_n dL_law_526 rfl rfl) <|
  ac_cons (so_aload_n dL_law_527 rfl rfl) <|
  ac_cons (so_iload dL_law_528 rfl) <|
  ac_cons (so_iconst dL_law_530 (by decide +kernel) rfl) <|
  ac_cons (so_iadd dL_law_531 rfl) <|
  ac_cons (so_sld dL_law_532 rfl) <|
  ac_cons (so_aload_n dL_law_533 rfl rfl) <|
  ac_cons (so_iload dL_law_534 rfl) <|
  ac_cons (so_iconst dL_law_536 (by decide +kernel) rfl) <|
  ac_cons (so_iadd dL_law_537 rfl) <|
  ac_cons (so_sld dL_law_538 rfl) <|
  ac_cons (so_callV (N := M_X6_lose) (ci := 9) C_X6_lose rfl ⟨wd_716, wd_25, dy_X6_lose, ⟨by decide, by decide⟩, tb_L_law⟩ rfl dL_law_539 wd_713 wd_714 wd_715 rfl) <|
  ac_cons (so_istore dL_law_542 rfl) <|
  ac_cons (so_aload_n dL_law_544 rfl rfl) <|
  ac_cons (so_callV (N := M_X6_thrown) (ci := 9) C_X6_thrown rfl ⟨wd_672, wd_25, dy_X6_thrown, ⟨by decide, by decide⟩, tb_L_law⟩ rfl dL_law_545 wd_669 wd_670 wd_671 rfl) <|
  ac_cons (so_iload dL_law_548 rfl) <|
  ac_cons (so_icmp_eq dL_law_550 (by decide) rfl) <|
  ac_cons (so_iconst dL_law_553 (by decide +kernel) rfl) <|
  ac_cons (so_zreturn rfl dL_law_554) <|
  ac_cons (so_iload dL_law_555 rfl) <|
  ac_cons (so_if_ne dL_law_557 (by decide) rfl) <|
  ac_cons (so_aload_n dL_law_560 rfl rfl) <|
  ac_cons (so_iconst dL_law_561 (by decide +kernel) rfl) <|
  ac_cons (so_lald dL_law_562 rfl) <|
  ac_cons (so_iload dL_law_563 rfl) <|
  ac_cons (so_i2l dL_law_565 rfl) <|
  ac_cons (so_lcmp dL_law_566 rfl) <|
  ac_cons (so_if_eq dL_law_567 (by decide) rfl) <|
  ac_cons (so_iconst dL_law_570 (by decide +kernel) rfl) <|
  ac_cons (so_zreturn rfl dL_law_571) <|
  ac_cons (so_goto dL_law_572 (by decide)) <| ac_nil
def k_l07 (scr : Nat → Nat → (Nat → Int32) → Prop) : List (Nat × ac_op) := [(575, op_aload 1 576),
  (576, op_aload 0 577),
  (577, op_iload 4 579),
  (579, op_push (.int 1) 580),
  (580, op_ii (fun x y => x + y) 581),
  (581, op_sld scr 582),
  (582, op_aload 0 583),
  (583, op_iload 4 585),
  (585, op_push (.int 2) 586),
  (586, op_ii (fun x y => x + y) 587),
  (587, op_sld scr 588),
  (588, op_aload 3 589),
  (589, op_callS rm_L_law [] T_L_resize rm_L_resize 4 589 592),
  (592, op_istore 5 594),
  (594, op_aload 2 595),
  (595, op_aload 0 596),
  (596, op_iload 4 598),
  (598, op_push (.int 1) 599),
  (599, op_ii (fun x y => x + y) 600),
  (600, op_sld scr 601),
  (601, op_aload 0 602),
  (602, op_iload 4 604),
  (604, op_push (.int 2) 605),
  (605, op_ii (fun x y => x + y) 606),
  (606, op_sld scr 607),
  (607, op_callV rm_L_law [] 9 T_X6_resize rm_X6_resize 2 607 610),
  (610, op_istore 6 612),
  (612, op_aload 2 613),
  (613, op_callV rm_L_law [] 9 T_X6_thrown rm_X6_thrown 0 613 616),
  (616, op_iload 5 618),
  (618, op_icmp (fun x y => x = y) 623 621),
  (621, op_push (.int 0) 622),
  (622, op_zreturn rm_L_law),
  (623, op_iload 5 625),
  (625, op_if (fun x => ¬ x = 0) 640 628),
  (628, op_aload 3 629),
  (629, op_push (.int 0) 630),
  (630, op_lald 631),
  (631, op_iload 6 633),
  (633, op_i (fun x => .long x.toInt64) 634),
  (634, op_lcmp 635),
  (635, op_if (fun x => x = 0) 640 638),
  (638, op_push (.int 0) 639),
  (639, op_zreturn rm_L_law),
  (640, op_goto 1665)]
set_option maxRecDepth 100000 in
set_option maxHeartbeats 4000000 in
theorem s_l07 (scr : Nat → Nat → (Nat → Int32) → Prop) : ∀ x ∈ k_l07 scr, ac_So M_L_law scr x.1 x.2 :=
  ac_cons (so_aload_n dL_law_575 rfl rfl) <|
  ac_cons (so_aload_n dL_law_576 rfl rfl) <|
  ac_cons (so_iload dL_law_577 rfl) <|
  ac_cons (so_iconst dL_law_579 (by decide +kernel) rfl) <|
  ac_cons (so_iadd dL_law_580 rfl) <|
  ac_cons (so_sld dL_law_581 rfl) <|
  ac_cons (so_aload_n dL_law_582 rfl rfl) <|
  ac_cons (so_iload dL_law_583 rfl) <|
  ac_cons (so_iconst dL_law_585 (by decide +kernel) rfl) <|
  ac_cons (so_iadd dL_law_586 rfl) <|
  ac_cons (so_sld dL_law_587 rfl) <|
  ac_cons (so_aload_n dL_law_588 rfl rfl) <|
  ac_cons (so_callSX (N := M_L_resize) C_L_resize rfl ⟨wd_436, wd_23, dy_L_resize, ⟨by decide, by decide⟩, tb_L_law⟩ dL_law_589 wd_434 wd_435 rfl) <|
  ac_cons (so_istore dL_law_592 rfl) <|
  ac_cons (so_aload_n dL_law_594 rfl rfl) <|
  ac_cons (so_aload_n dL_law_595 rfl rfl) <|
  ac_cons (so_iload dL_law_596 rfl) <|
  ac_cons (so_iconst dL_law_598 (by decide +kernel) rfl) <|
  ac_cons (so_iadd dL_law_599 rfl) <|
  ac_cons (so_sld dL_law_600 rfl) <|
  ac_cons (so_aload_n dL_law_601 rfl rfl) <|
  ac_cons (so_iload dL_law_602 rfl) <|
  ac_cons (so_iconst dL_law_604 (by decide +kernel) rfl) <|
  ac_cons (so_iadd dL_law_605 rfl) <|
  ac_cons (so_sld dL_law_606 rfl) <|
  ac_cons (so_callV (N := M_X6_resize) (ci := 9) C_X6_resize rfl ⟨wd_720, wd_25, dy_X6_resize, ⟨by decide, by decide⟩, tb_L_law⟩ rfl dL_law_607 wd_717 wd_718 wd_719 rfl) <|
  ac_cons (so_istore dL_law_610 rfl) <|
  ac_cons (so_aload_n dL_law_612 rfl rfl) <|
  ac_cons (so_callV (N := M_X6_thrown) (ci := 9) C_X6_thrown rfl ⟨wd_672, wd_25, dy_X6_thrown, ⟨by decide, by decide⟩, tb_L_law⟩ rfl dL_law_613 wd_669 wd_670 wd_671 rfl) <|
  ac_cons (so_iload dL_law_616 rfl) <|
  ac_cons (so_icmp_eq dL_law_618 (by decide) rfl) <|
  ac_cons (so_iconst dL_law_621 (by decide +kernel) rfl) <|
  ac_cons (so_zreturn rfl dL_law_622) <|
  ac_cons (so_iload dL_law_623 rfl) <|
  ac_cons (so_if_ne dL_law_625 (by decide) rfl) <|
  ac_cons (so_aload_n dL_law_628 rfl rfl) <|
  ac_cons (so_iconst dL_law_629 (by decide +kernel) rfl) <|
  ac_cons (so_lald dL_law_630 rfl) <|
  ac_cons (so_iload dL_law_631 rfl) <|
  ac_cons (so_i2l dL_law_633 rfl) <|
  ac_cons (so_lcmp dL_law_634 rfl) <|
  ac_cons (so_if_eq dL_law_635 (by decide) rfl) <|
  ac_cons (so_iconst dL_law_638 (by decide +kernel) rfl) <|
  ac_cons (so_zreturn rfl dL_law_639) <|
  ac_cons (so_goto dL_law_640 (by decide)) <| ac_nil
def k_l08 (scr : Nat → Nat → (Nat → Int32) → Prop) : List (Nat × ac_op) := [(643, op_aload 1 644),
  (644, op_aload 0 645),
  (645, op_iload 4 647),
  (647, op_push (.int 1) 648),
  (648, op_ii (fun x y => x + y) 649),
  (649, op_sld scr 650),
  (650, op_aload 3 651),
  (651, op_callS rm_L_law [] T_L_size rm_L_size 3 651 654),
  (654, op_istore 5 656),
  (656, op_aload 2 657),
  (657, op_aload 0 658),
  (658, op_iload 4 660),
  (660, op_push (.int 1) 661),
  (661, op_ii (fun x y => x + y) 662),
  (662, op_sld scr 663),
  (663, op_callV rm_L_law [] 9 T_X6_size rm_X6_size 1 663 666),
  (666, op_istore 6 668),
  (668, op_aload 2 669),
  (669, op_callV rm_L_law [] 9 T_X6_thrown rm_X6_thrown 0 669 672),
  (672, op_iload 5 674),
  (674, op_icmp (fun x y => x = y) 679 677),
  (677, op_push (.int 0) 678),
  (678, op_zreturn rm_L_law),
  (679, op_iload 5 681),
  (681, op_if (fun x => ¬ x = 0) 696 684),
  (684, op_aload 3 685),
  (685, op_push (.int 0) 686),
  (686, op_lald 687),
  (687, op_iload 6 689),
  (689, op_i (fun x => .long x.toInt64) 690),
  (690, op_lcmp 691),
  (691, op_if (fun x => x = 0) 696 694),
  (694, op_push (.int 0) 695),
  (695, op_zreturn rm_L_law),
  (696, op_goto 1665)]
set_option maxRecDepth 100000 in
set_option maxHeartbeats 4000000 in
theorem s_l08 (scr : Nat → Nat → (Nat → Int32) → Prop) : ∀ x ∈ k_l08 scr, ac_So M_L_law scr x.1 x.2 :=
  ac_cons (so_aload_n dL_law_643 rfl rfl) <|
  ac_cons (so_aload_n dL_law_644 rfl rfl) <|
  ac_cons (so_iload dL_law_645 rfl) <|
  ac_cons (so_iconst dL_law_647 (by decide +kernel) rfl) <|
  ac_cons (so_iadd dL_law_648 rfl) <|
  ac_cons (so_sld dL_law_649 rfl) <|
  ac_cons (so_aload_n dL_law_650 rfl rfl) <|
  ac_cons (so_callSX (N := M_L_size) C_L_size rfl ⟨wd_469, wd_23, dy_L_size, ⟨by decide, by decide⟩, tb_L_law⟩ dL_law_651 wd_467 wd_468 rfl) <|
  ac_cons (so_istore dL_law_654 rfl) <|
  ac_cons (so_aload_n dL_law_656 rfl rfl) <|
  ac_cons (so_aload_n dL_law_657 rfl rfl) <|
  ac_cons (so_iload dL_law_658 rfl) <|
  ac_cons (so_iconst dL_law_660 (by decide +kernel) rfl) <|
  ac_cons (so_iadd dL_law_661 rfl) <|
  ac_cons (so_sld dL_law_662 rfl) <|
  ac_cons (so_callV (N := M_X6_size) (ci := 9) C_X6_size rfl ⟨wd_724, wd_25, dy_X6_size, ⟨by decide, by decide⟩, tb_L_law⟩ rfl dL_law_663 wd_721 wd_722 wd_723 rfl) <|
  ac_cons (so_istore dL_law_666 rfl) <|
  ac_cons (so_aload_n dL_law_668 rfl rfl) <|
  ac_cons (so_callV (N := M_X6_thrown) (ci := 9) C_X6_thrown rfl ⟨wd_672, wd_25, dy_X6_thrown, ⟨by decide, by decide⟩, tb_L_law⟩ rfl dL_law_669 wd_669 wd_670 wd_671 rfl) <|
  ac_cons (so_iload dL_law_672 rfl) <|
  ac_cons (so_icmp_eq dL_law_674 (by decide) rfl) <|
  ac_cons (so_iconst dL_law_677 (by decide +kernel) rfl) <|
  ac_cons (so_zreturn rfl dL_law_678) <|
  ac_cons (so_iload dL_law_679 rfl) <|
  ac_cons (so_if_ne dL_law_681 (by decide) rfl) <|
  ac_cons (so_aload_n dL_law_684 rfl rfl) <|
  ac_cons (so_iconst dL_law_685 (by decide +kernel) rfl) <|
  ac_cons (so_lald dL_law_686 rfl) <|
  ac_cons (so_iload dL_law_687 rfl) <|
  ac_cons (so_i2l dL_law_689 rfl) <|
  ac_cons (so_lcmp dL_law_690 rfl) <|
  ac_cons (so_if_eq dL_law_691 (by decide) rfl) <|
  ac_cons (so_iconst dL_law_694 (by decide +kernel) rfl) <|
  ac_cons (so_zreturn rfl dL_law_695) <|
  ac_cons (so_goto dL_law_696 (by decide)) <| ac_nil
def k_l09 (scr : Nat → Nat → (Nat → Int32) → Prop) : List (Nat × ac_op) := [(699, op_aload 1 700),
  (700, op_aload 0 701),
  (701, op_iload 4 703),
  (703, op_push (.int 1) 704),
  (704, op_ii (fun x y => x + y) 705),
  (705, op_sld scr 706),
  (706, op_aload 0 707),
  (707, op_iload 4 709),
  (709, op_push (.int 2) 710),
  (710, op_ii (fun x y => x + y) 711),
  (711, op_sld scr 712),
  (712, op_aload 3 713),
  (713, op_callS rm_L_law [] T_L_take rm_L_take 4 713 716),
  (716, op_istore 5 718),
  (718, op_aload 2 719),
  (719, op_aload 0 720),
  (720, op_iload 4 722),
  (722, op_push (.int 1) 723),
  (723, op_ii (fun x y => x + y) 724),
  (724, op_sld scr 725),
  (725, op_aload 0 726),
  (726, op_iload 4 728),
  (728, op_push (.int 2) 729),
  (729, op_ii (fun x y => x + y) 730),
  (730, op_sld scr 731),
  (731, op_callV rm_L_law [] 9 T_X6_take rm_X6_take 2 731 734),
  (734, op_lstore 6 736),
  (736, op_aload 2 737),
  (737, op_callV rm_L_law [] 9 T_X6_thrown rm_X6_thrown 0 737 740),
  (740, op_iload 5 742),
  (742, op_icmp (fun x y => x = y) 747 745),
  (745, op_push (.int 0) 746),
  (746, op_zreturn rm_L_law),
  (747, op_iload 5 749),
  (749, op_if (fun x => ¬ x = 0) 763 752),
  (752, op_aload 3 753),
  (753, op_push (.int 0) 754),
  (754, op_lald 755),
  (755, op_lload 6 757),
  (757, op_lcmp 758),
  (758, op_if (fun x => x = 0) 763 761),
  (761, op_push (.int 0) 762),
  (762, op_zreturn rm_L_law),
  (763, op_goto 1665)]
set_option maxRecDepth 100000 in
set_option maxHeartbeats 4000000 in
theorem s_l09 (scr : Nat → Nat → (Nat → Int32) → Prop) : ∀ x ∈ k_l09 scr, ac_So M_L_law scr x.1 x.2 :=
  ac_cons (so_aload_n dL_law_699 rfl rfl) <|
  ac_cons (so_aload_n dL_law_700 rfl rfl) <|
  ac_cons (so_iload dL_law_701 rfl) <|
  ac_cons (so_iconst dL_law_703 (by decide +kernel) rfl) <|
  ac_cons (so_iadd dL_law_704 rfl) <|
  ac_cons (so_sld dL_law_705 rfl) <|
  ac_cons (so_aload_n dL_law_706 rfl rfl) <|
  ac_cons (so_iload dL_law_707 rfl) <|
  ac_cons (so_iconst dL_law_709 (by decide +kernel) rfl) <|
  ac_cons (so_iadd dL_law_710 rfl) <|
  ac_cons (so_sld dL_law_711 rfl) <|
  ac_cons (so_aload_n dL_law_712 rfl rfl) <|
  ac_cons (so_callSX (N := M_L_take) C_L_take rfl ⟨wd_476, wd_23, dy_L_take, ⟨by decide, by decide⟩, tb_L_law⟩ dL_law_713 wd_474 wd_475 rfl) <|
  ac_cons (so_istore dL_law_716 rfl) <|
  ac_cons (so_aload_n dL_law_718 rfl rfl) <|
  ac_cons (so_aload_n dL_law_719 rfl rfl) <|
  ac_cons (so_iload dL_law_720 rfl) <|
  ac_cons (so_iconst dL_law_722 (by decide +kernel) rfl) <|
  ac_cons (so_iadd dL_law_723 rfl) <|
  ac_cons (so_sld dL_law_724 rfl) <|
  ac_cons (so_aload_n dL_law_725 rfl rfl) <|
  ac_cons (so_iload dL_law_726 rfl) <|
  ac_cons (so_iconst dL_law_728 (by decide +kernel) rfl) <|
  ac_cons (so_iadd dL_law_729 rfl) <|
  ac_cons (so_sld dL_law_730 rfl) <|
  ac_cons (so_callV (N := M_X6_take) (ci := 9) C_X6_take rfl ⟨wd_728, wd_25, dy_X6_take, ⟨by decide, by decide⟩, tb_L_law⟩ rfl dL_law_731 wd_725 wd_726 wd_727 rfl) <|
  ac_cons (so_lstore dL_law_734 rfl) <|
  ac_cons (so_aload_n dL_law_736 rfl rfl) <|
  ac_cons (so_callV (N := M_X6_thrown) (ci := 9) C_X6_thrown rfl ⟨wd_672, wd_25, dy_X6_thrown, ⟨by decide, by decide⟩, tb_L_law⟩ rfl dL_law_737 wd_669 wd_670 wd_671 rfl) <|
  ac_cons (so_iload dL_law_740 rfl) <|
  ac_cons (so_icmp_eq dL_law_742 (by decide) rfl) <|
  ac_cons (so_iconst dL_law_745 (by decide +kernel) rfl) <|
  ac_cons (so_zreturn rfl dL_law_746) <|
  ac_cons (so_iload dL_law_747 rfl) <|
  ac_cons (so_if_ne dL_law_749 (by decide) rfl) <|
  ac_cons (so_aload_n dL_law_752 rfl rfl) <|
  ac_cons (so_iconst dL_law_753 (by decide +kernel) rfl) <|
  ac_cons (so_lald dL_law_754 rfl) <|
  ac_cons (so_lload dL_law_755 rfl) <|
  ac_cons (so_lcmp dL_law_757 rfl) <|
  ac_cons (so_if_eq dL_law_758 (by decide) rfl) <|
  ac_cons (so_iconst dL_law_761 (by decide +kernel) rfl) <|
  ac_cons (so_zreturn rfl dL_law_762) <|
  ac_cons (so_goto dL_law_763 (by decide)) <| ac_nil
def k_l10 (scr : Nat → Nat → (Nat → Int32) → Prop) : List (Nat × ac_op) := [(766, op_aload 1 767),
  (767, op_aload 0 768),
  (768, op_iload 4 770),
  (770, op_push (.int 1) 771),
  (771, op_ii (fun x y => x + y) 772),
  (772, op_sld scr 773),
  (773, op_aload 0 774),
  (774, op_iload 4 776),
  (776, op_push (.int 2) 777),
  (777, op_ii (fun x y => x + y) 778),
  (778, op_sld scr 779),
  (779, op_aload 0 780),
  (780, op_iload 4 782),
  (782, op_push (.int 3) 783),
  (783, op_ii (fun x y => x + y) 784),
  (784, op_sld scr 785),
  (785, op_i (fun x => .long x.toInt64) 786),
  (786, op_push (.int 32) 788),
  (788, op_lshl 789),
  (789, op_aload 0 790),
  (790, op_iload 4 792),
  (792, op_push (.int 4) 793),
  (793, op_ii (fun x y => x + y) 794),
  (794, op_sld scr 795),
  (795, op_i (fun x => .long x.toInt64) 796),
  (796, op_push (.long 4294967295) 799),
  (799, op_ll (fun x y => x &&& y) 800),
  (800, op_ll (fun x y => x ||| y) 801),
  (801, op_aload 3 802),
  (802, op_callS rm_L_law [] T_L_put rm_L_put 5 802 805),
  (805, op_istore 5 807),
  (807, op_aload 2 808),
  (808, op_aload 0 809),
  (809, op_iload 4 811),
  (811, op_push (.int 1) 812),
  (812, op_ii (fun x y => x + y) 813),
  (813, op_sld scr 814),
  (814, op_aload 0 815),
  (815, op_iload 4 817),
  (817, op_push (.int 2) 818),
  (818, op_ii (fun x y => x + y) 819),
  (819, op_sld scr 820),
  (820, op_aload 0 821),
  (821, op_iload 4 823),
  (823, op_push (.int 3) 824),
  (824, op_ii (fun x y => x + y) 825),
  (825, op_sld scr 826),
  (826, op_i (fun x => .long x.toInt64) 827),
  (827, op_push (.int 32) 829),
  (829, op_lshl 830),
  (830, op_aload 0 831),
  (831, op_iload 4 833),
  (833, op_push (.int 4) 834),
  (834, op_ii (fun x y => x + y) 835),
  (835, op_sld scr 836),
  (836, op_i (fun x => .long x.toInt64) 837),
  (837, op_push (.long 4294967295) 840),
  (840, op_ll (fun x y => x &&& y) 841),
  (841, op_ll (fun x y => x ||| y) 842),
  (842, op_callV rm_L_law [] 9 T_X6_put rm_X6_put 3 842 845),
  (845, op_lstore 6 847),
  (847, op_aload 2 848),
  (848, op_callV rm_L_law [] 9 T_X6_thrown rm_X6_thrown 0 848 851),
  (851, op_iload 5 853),
  (853, op_icmp (fun x y => x = y) 858 856),
  (856, op_push (.int 0) 857),
  (857, op_zreturn rm_L_law),
  (858, op_iload 5 860),
  (860, op_if (fun x => ¬ x = 0) 874 863),
  (863, op_aload 3 864),
  (864, op_push (.int 0) 865),
  (865, op_lald 866),
  (866, op_lload 6 868),
  (868, op_lcmp 869),
  (869, op_if (fun x => x = 0) 874 872),
  (872, op_push (.int 0) 873),
  (873, op_zreturn rm_L_law),
  (874, op_goto 1665)]
set_option maxRecDepth 100000 in
set_option maxHeartbeats 4000000 in
theorem s_l10 (scr : Nat → Nat → (Nat → Int32) → Prop) : ∀ x ∈ k_l10 scr, ac_So M_L_law scr x.1 x.2 :=
  ac_cons (so_aload_n dL_law_766 rfl rfl) <|
  ac_cons (so_aload_n dL_law_767 rfl rfl) <|
  ac_cons (so_iload dL_law_768 rfl) <|
  ac_cons (so_iconst dL_law_770 (by decide +kernel) rfl) <|
  ac_cons (so_iadd dL_law_771 rfl) <|
  ac_cons (so_sld dL_law_772 rfl) <|
  ac_cons (so_aload_n dL_law_773 rfl rfl) <|
  ac_cons (so_iload dL_law_774 rfl) <|
  ac_cons (so_iconst dL_law_776 (by decide +kernel) rfl) <|
  ac_cons (so_iadd dL_law_777 rfl) <|
  ac_cons (so_sld dL_law_778 rfl) <|
  ac_cons (so_aload_n dL_law_779 rfl rfl) <|
  ac_cons (so_iload dL_law_780 rfl) <|
  ac_cons (so_iconst dL_law_782 (by decide +kernel) rfl) <|
  ac_cons (so_iadd dL_law_783 rfl) <|
  ac_cons (so_sld dL_law_784 rfl) <|
  ac_cons (so_i2l dL_law_785 rfl) <|
  ac_cons (so_bipush dL_law_786 (by decide +kernel) rfl) <|
  ac_cons (so_lshl dL_law_788 rfl) <|
  ac_cons (so_aload_n dL_law_789 rfl rfl) <|
  ac_cons (so_iload dL_law_790 rfl) <|
  ac_cons (so_iconst dL_law_792 (by decide +kernel) rfl) <|
  ac_cons (so_iadd dL_law_793 rfl) <|
  ac_cons (so_sld dL_law_794 rfl) <|
  ac_cons (so_i2l dL_law_795 rfl) <|
  ac_cons (so_ldc2 dL_law_796 wd_824 rfl) <|
  ac_cons (so_land dL_law_799 rfl) <|
  ac_cons (so_lor dL_law_800 rfl) <|
  ac_cons (so_aload_n dL_law_801 rfl rfl) <|
  ac_cons (so_callSX (N := M_L_put) C_L_put rfl ⟨wd_504, wd_23, dy_L_put, ⟨by decide, by decide⟩, tb_L_law⟩ dL_law_802 wd_502 wd_503 rfl) <|
  ac_cons (so_istore dL_law_805 rfl) <|
  ac_cons (so_aload_n dL_law_807 rfl rfl) <|
  ac_cons (so_aload_n dL_law_808 rfl rfl) <|
  ac_cons (so_iload dL_law_809 rfl) <|
  ac_cons (so_iconst dL_law_811 (by decide +kernel) rfl) <|
  ac_cons (so_iadd dL_law_812 rfl) <|
  ac_cons (so_sld dL_law_813 rfl) <|
  ac_cons (so_aload_n dL_law_814 rfl rfl) <|
  ac_cons (so_iload dL_law_815 rfl) <|
  ac_cons (so_iconst dL_law_817 (by decide +kernel) rfl) <|
  ac_cons (so_iadd dL_law_818 rfl) <|
  ac_cons (so_sld dL_law_819 rfl) <|
  ac_cons (so_aload_n dL_law_820 rfl rfl) <|
  ac_cons (so_iload dL_law_821 rfl) <|
  ac_cons (so_iconst dL_law_823 (by decide +kernel) rfl) <|
  ac_cons (so_iadd dL_law_824 rfl) <|
  ac_cons (so_sld dL_law_825 rfl) <|
  ac_cons (so_i2l dL_law_826 rfl) <|
  ac_cons (so_bipush dL_law_827 (by decide +kernel) rfl) <|
  ac_cons (so_lshl dL_law_829 rfl) <|
  ac_cons (so_aload_n dL_law_830 rfl rfl) <|
  ac_cons (so_iload dL_law_831 rfl) <|
  ac_cons (so_iconst dL_law_833 (by decide +kernel) rfl) <|
  ac_cons (so_iadd dL_law_834 rfl) <|
  ac_cons (so_sld dL_law_835 rfl) <|
  ac_cons (so_i2l dL_law_836 rfl) <|
  ac_cons (so_ldc2 dL_law_837 wd_824 rfl) <|
  ac_cons (so_land dL_law_840 rfl) <|
  ac_cons (so_lor dL_law_841 rfl) <|
  ac_cons (so_callV (N := M_X6_put) (ci := 9) C_X6_put rfl ⟨wd_752, wd_25, dy_X6_put, ⟨by decide, by decide⟩, tb_L_law⟩ rfl dL_law_842 wd_749 wd_750 wd_751 rfl) <|
  ac_cons (so_lstore dL_law_845 rfl) <|
  ac_cons (so_aload_n dL_law_847 rfl rfl) <|
  ac_cons (so_callV (N := M_X6_thrown) (ci := 9) C_X6_thrown rfl ⟨wd_672, wd_25, dy_X6_thrown, ⟨by decide, by decide⟩, tb_L_law⟩ rfl dL_law_848 wd_669 wd_670 wd_671 rfl) <|
  ac_cons (so_iload dL_law_851 rfl) <|
  ac_cons (so_icmp_eq dL_law_853 (by decide) rfl) <|
  ac_cons (so_iconst dL_law_856 (by decide +kernel) rfl) <|
  ac_cons (so_zreturn rfl dL_law_857) <|
  ac_cons (so_iload dL_law_858 rfl) <|
  ac_cons (so_if_ne dL_law_860 (by decide) rfl) <|
  ac_cons (so_aload_n dL_law_863 rfl rfl) <|
  ac_cons (so_iconst dL_law_864 (by decide +kernel) rfl) <|
  ac_cons (so_lald dL_law_865 rfl) <|
  ac_cons (so_lload dL_law_866 rfl) <|
  ac_cons (so_lcmp dL_law_868 rfl) <|
  ac_cons (so_if_eq dL_law_869 (by decide) rfl) <|
  ac_cons (so_iconst dL_law_872 (by decide +kernel) rfl) <|
  ac_cons (so_zreturn rfl dL_law_873) <|
  ac_cons (so_goto dL_law_874 (by decide)) <| ac_nil
def k_l11 (scr : Nat → Nat → (Nat → Int32) → Prop) : List (Nat × ac_op) := [(877, op_aload 1 878),
  (878, op_aload 0 879),
  (879, op_iload 4 881),
  (881, op_push (.int 1) 882),
  (882, op_ii (fun x y => x + y) 883),
  (883, op_sld scr 884),
  (884, op_aload 0 885),
  (885, op_iload 4 887),
  (887, op_push (.int 2) 888),
  (888, op_ii (fun x y => x + y) 889),
  (889, op_sld scr 890),
  (890, op_aload 0 891),
  (891, op_iload 4 893),
  (893, op_push (.int 3) 894),
  (894, op_ii (fun x y => x + y) 895),
  (895, op_sld scr 896),
  (896, op_aload 3 897),
  (897, op_callS rm_L_law [] T_L_cell rm_L_cell 5 897 900),
  (900, op_istore 5 902),
  (902, op_aload 2 903),
  (903, op_aload 0 904),
  (904, op_iload 4 906),
  (906, op_push (.int 1) 907),
  (907, op_ii (fun x y => x + y) 908),
  (908, op_sld scr 909),
  (909, op_aload 0 910),
  (910, op_iload 4 912),
  (912, op_push (.int 2) 913),
  (913, op_ii (fun x y => x + y) 914),
  (914, op_sld scr 915),
  (915, op_aload 0 916),
  (916, op_iload 4 918),
  (918, op_push (.int 3) 919),
  (919, op_ii (fun x y => x + y) 920),
  (920, op_sld scr 921),
  (921, op_callV rm_L_law [] 9 T_X6_cell rm_X6_cell 3 921 924),
  (924, op_istore 6 926),
  (926, op_aload 2 927),
  (927, op_callV rm_L_law [] 9 T_X6_thrown rm_X6_thrown 0 927 930),
  (930, op_iload 5 932),
  (932, op_icmp (fun x y => x = y) 937 935),
  (935, op_push (.int 0) 936),
  (936, op_zreturn rm_L_law),
  (937, op_iload 5 939),
  (939, op_if (fun x => ¬ x = 0) 954 942),
  (942, op_aload 3 943),
  (943, op_push (.int 0) 944),
  (944, op_lald 945),
  (945, op_iload 6 947),
  (947, op_i (fun x => .long x.toInt64) 948),
  (948, op_lcmp 949),
  (949, op_if (fun x => x = 0) 954 952),
  (952, op_push (.int 0) 953),
  (953, op_zreturn rm_L_law),
  (954, op_goto 1665)]
set_option maxRecDepth 100000 in
set_option maxHeartbeats 4000000 in
theorem s_l11 (scr : Nat → Nat → (Nat → Int32) → Prop) : ∀ x ∈ k_l11 scr, ac_So M_L_law scr x.1 x.2 :=
  ac_cons (so_aload_n dL_law_877 rfl rfl) <|
  ac_cons (so_aload_n dL_law_878 rfl rfl) <|
  ac_cons (so_iload dL_law_879 rfl) <|
  ac_cons (so_iconst dL_law_881 (by decide +kernel) rfl) <|
  ac_cons (so_iadd dL_law_882 rfl) <|
  ac_cons (so_sld dL_law_883 rfl) <|
  ac_cons (so_aload_n dL_law_884 rfl rfl) <|
  ac_cons (so_iload dL_law_885 rfl) <|
  ac_cons (so_iconst dL_law_887 (by decide +kernel) rfl) <|
  ac_cons (so_iadd dL_law_888 rfl) <|
  ac_cons (so_sld dL_law_889 rfl) <|
  ac_cons (so_aload_n dL_law_890 rfl rfl) <|
  ac_cons (so_iload dL_law_891 rfl) <|
  ac_cons (so_iconst dL_law_893 (by decide +kernel) rfl) <|
  ac_cons (so_iadd dL_law_894 rfl) <|
  ac_cons (so_sld dL_law_895 rfl) <|
  ac_cons (so_aload_n dL_law_896 rfl rfl) <|
  ac_cons (so_callSX (N := M_L_cell) C_L_cell rfl ⟨wd_517, wd_23, dy_L_cell, ⟨by decide, by decide⟩, tb_L_law⟩ dL_law_897 wd_515 wd_516 rfl) <|
  ac_cons (so_istore dL_law_900 rfl) <|
  ac_cons (so_aload_n dL_law_902 rfl rfl) <|
  ac_cons (so_aload_n dL_law_903 rfl rfl) <|
  ac_cons (so_iload dL_law_904 rfl) <|
  ac_cons (so_iconst dL_law_906 (by decide +kernel) rfl) <|
  ac_cons (so_iadd dL_law_907 rfl) <|
  ac_cons (so_sld dL_law_908 rfl) <|
  ac_cons (so_aload_n dL_law_909 rfl rfl) <|
  ac_cons (so_iload dL_law_910 rfl) <|
  ac_cons (so_iconst dL_law_912 (by decide +kernel) rfl) <|
  ac_cons (so_iadd dL_law_913 rfl) <|
  ac_cons (so_sld dL_law_914 rfl) <|
  ac_cons (so_aload_n dL_law_915 rfl rfl) <|
  ac_cons (so_iload dL_law_916 rfl) <|
  ac_cons (so_iconst dL_law_918 (by decide +kernel) rfl) <|
  ac_cons (so_iadd dL_law_919 rfl) <|
  ac_cons (so_sld dL_law_920 rfl) <|
  ac_cons (so_callV (N := M_X6_cell) (ci := 9) C_X6_cell rfl ⟨wd_764, wd_25, dy_X6_cell, ⟨by decide, by decide⟩, tb_L_law⟩ rfl dL_law_921 wd_761 wd_762 wd_763 rfl) <|
  ac_cons (so_istore dL_law_924 rfl) <|
  ac_cons (so_aload_n dL_law_926 rfl rfl) <|
  ac_cons (so_callV (N := M_X6_thrown) (ci := 9) C_X6_thrown rfl ⟨wd_672, wd_25, dy_X6_thrown, ⟨by decide, by decide⟩, tb_L_law⟩ rfl dL_law_927 wd_669 wd_670 wd_671 rfl) <|
  ac_cons (so_iload dL_law_930 rfl) <|
  ac_cons (so_icmp_eq dL_law_932 (by decide) rfl) <|
  ac_cons (so_iconst dL_law_935 (by decide +kernel) rfl) <|
  ac_cons (so_zreturn rfl dL_law_936) <|
  ac_cons (so_iload dL_law_937 rfl) <|
  ac_cons (so_if_ne dL_law_939 (by decide) rfl) <|
  ac_cons (so_aload_n dL_law_942 rfl rfl) <|
  ac_cons (so_iconst dL_law_943 (by decide +kernel) rfl) <|
  ac_cons (so_lald dL_law_944 rfl) <|
  ac_cons (so_iload dL_law_945 rfl) <|
  ac_cons (so_i2l dL_law_947 rfl) <|
  ac_cons (so_lcmp dL_law_948 rfl) <|
  ac_cons (so_if_eq dL_law_949 (by decide) rfl) <|
  ac_cons (so_iconst dL_law_952 (by decide +kernel) rfl) <|
  ac_cons (so_zreturn rfl dL_law_953) <|
  ac_cons (so_goto dL_law_954 (by decide)) <| ac_nil
def k_l12 (scr : Nat → Nat → (Nat → Int32) → Prop) : List (Nat × ac_op) := [(957, op_aload 1 958),
  (958, op_aload 0 959),
  (959, op_iload 4 961),
  (961, op_push (.int 1) 962),
  (962, op_ii (fun x y => x + y) 963),
  (963, op_sld scr 964),
  (964, op_aload 0 965),
  (965, op_iload 4 967),
  (967, op_push (.int 2) 968),
  (968, op_ii (fun x y => x + y) 969),
  (969, op_sld scr 970),
  (970, op_aload 0 971),
  (971, op_iload 4 973),
  (973, op_push (.int 3) 974),
  (974, op_ii (fun x y => x + y) 975),
  (975, op_sld scr 976),
  (976, op_aload 0 977),
  (977, op_iload 4 979),
  (979, op_push (.int 4) 980),
  (980, op_ii (fun x y => x + y) 981),
  (981, op_sld scr 982),
  (982, op_aload 0 983),
  (983, op_iload 4 985),
  (985, op_push (.int 5) 986),
  (986, op_ii (fun x y => x + y) 987),
  (987, op_sld scr 988),
  (988, op_callS rm_L_law [] T_L_setCell rm_L_setCell 6 988 991),
  (991, op_istore 5 993),
  (993, op_aload 2 994),
  (994, op_aload 0 995),
  (995, op_iload 4 997),
  (997, op_push (.int 1) 998),
  (998, op_ii (fun x y => x + y) 999),
  (999, op_sld scr 1000),
  (1000, op_aload 0 1001),
  (1001, op_iload 4 1003),
  (1003, op_push (.int 2) 1004),
  (1004, op_ii (fun x y => x + y) 1005),
  (1005, op_sld scr 1006),
  (1006, op_aload 0 1007),
  (1007, op_iload 4 1009),
  (1009, op_push (.int 3) 1010),
  (1010, op_ii (fun x y => x + y) 1011),
  (1011, op_sld scr 1012),
  (1012, op_aload 0 1013),
  (1013, op_iload 4 1015),
  (1015, op_push (.int 4) 1016),
  (1016, op_ii (fun x y => x + y) 1017),
  (1017, op_sld scr 1018),
  (1018, op_aload 0 1019),
  (1019, op_iload 4 1021),
  (1021, op_push (.int 5) 1022),
  (1022, op_ii (fun x y => x + y) 1023),
  (1023, op_sld scr 1024),
  (1024, op_callV rm_L_law [] 9 T_X6_setCell rm_X6_setCell 5 1024 1027),
  (1027, op_aload 2 1028),
  (1028, op_callV rm_L_law [] 9 T_X6_thrown rm_X6_thrown 0 1028 1031),
  (1031, op_iload 5 1033),
  (1033, op_icmp (fun x y => x = y) 1038 1036),
  (1036, op_push (.int 0) 1037),
  (1037, op_zreturn rm_L_law),
  (1038, op_goto 1665)]
set_option maxRecDepth 100000 in
set_option maxHeartbeats 4000000 in
theorem s_l12 (scr : Nat → Nat → (Nat → Int32) → Prop) : ∀ x ∈ k_l12 scr, ac_So M_L_law scr x.1 x.2 :=
  ac_cons (so_aload_n dL_law_957 rfl rfl) <|
  ac_cons (so_aload_n dL_law_958 rfl rfl) <|
  ac_cons (so_iload dL_law_959 rfl) <|
  ac_cons (so_iconst dL_law_961 (by decide +kernel) rfl) <|
  ac_cons (so_iadd dL_law_962 rfl) <|
  ac_cons (so_sld dL_law_963 rfl) <|
  ac_cons (so_aload_n dL_law_964 rfl rfl) <|
  ac_cons (so_iload dL_law_965 rfl) <|
  ac_cons (so_iconst dL_law_967 (by decide +kernel) rfl) <|
  ac_cons (so_iadd dL_law_968 rfl) <|
  ac_cons (so_sld dL_law_969 rfl) <|
  ac_cons (so_aload_n dL_law_970 rfl rfl) <|
  ac_cons (so_iload dL_law_971 rfl) <|
  ac_cons (so_iconst dL_law_973 (by decide +kernel) rfl) <|
  ac_cons (so_iadd dL_law_974 rfl) <|
  ac_cons (so_sld dL_law_975 rfl) <|
  ac_cons (so_aload_n dL_law_976 rfl rfl) <|
  ac_cons (so_iload dL_law_977 rfl) <|
  ac_cons (so_iconst dL_law_979 (by decide +kernel) rfl) <|
  ac_cons (so_iadd dL_law_980 rfl) <|
  ac_cons (so_sld dL_law_981 rfl) <|
  ac_cons (so_aload_n dL_law_982 rfl rfl) <|
  ac_cons (so_iload dL_law_983 rfl) <|
  ac_cons (so_iconst dL_law_985 (by decide +kernel) rfl) <|
  ac_cons (so_iadd dL_law_986 rfl) <|
  ac_cons (so_sld dL_law_987 rfl) <|
  ac_cons (so_callSX (N := M_L_setCell) C_L_setCell rfl ⟨wd_531, wd_23, dy_L_setCell, ⟨by decide, by decide⟩, tb_L_law⟩ dL_law_988 wd_529 wd_530 rfl) <|
  ac_cons (so_istore dL_law_991 rfl) <|
  ac_cons (so_aload_n dL_law_993 rfl rfl) <|
  ac_cons (so_aload_n dL_law_994 rfl rfl) <|
  ac_cons (so_iload dL_law_995 rfl) <|
  ac_cons (so_iconst dL_law_997 (by decide +kernel) rfl) <|
  ac_cons (so_iadd dL_law_998 rfl) <|
  ac_cons (so_sld dL_law_999 rfl) <|
  ac_cons (so_aload_n dL_law_1000 rfl rfl) <|
  ac_cons (so_iload dL_law_1001 rfl) <|
  ac_cons (so_iconst dL_law_1003 (by decide +kernel) rfl) <|
  ac_cons (so_iadd dL_law_1004 rfl) <|
  ac_cons (so_sld dL_law_1005 rfl) <|
  ac_cons (so_aload_n dL_law_1006 rfl rfl) <|
  ac_cons (so_iload dL_law_1007 rfl) <|
  ac_cons (so_iconst dL_law_1009 (by decide +kernel) rfl) <|
  ac_cons (so_iadd dL_law_1010 rfl) <|
  ac_cons (so_sld dL_law_1011 rfl) <|
  ac_cons (so_aload_n dL_law_1012 rfl rfl) <|
  ac_cons (so_iload dL_law_1013 rfl) <|
  ac_cons (so_iconst dL_law_1015 (by decide +kernel) rfl) <|
  ac_cons (so_iadd dL_law_1016 rfl) <|
  ac_cons (so_sld dL_law_1017 rfl) <|
  ac_cons (so_aload_n dL_law_1018 rfl rfl) <|
  ac_cons (so_iload dL_law_1019 rfl) <|
  ac_cons (so_iconst dL_law_1021 (by decide +kernel) rfl) <|
  ac_cons (so_iadd dL_law_1022 rfl) <|
  ac_cons (so_sld dL_law_1023 rfl) <|
  ac_cons (so_callV (N := M_X6_setCell) (ci := 9) C_X6_setCell rfl ⟨wd_776, wd_25, dy_X6_setCell, ⟨by decide, by decide⟩, tb_L_law⟩ rfl dL_law_1024 wd_773 wd_774 wd_775 rfl) <|
  ac_cons (so_aload_n dL_law_1027 rfl rfl) <|
  ac_cons (so_callV (N := M_X6_thrown) (ci := 9) C_X6_thrown rfl ⟨wd_672, wd_25, dy_X6_thrown, ⟨by decide, by decide⟩, tb_L_law⟩ rfl dL_law_1028 wd_669 wd_670 wd_671 rfl) <|
  ac_cons (so_iload dL_law_1031 rfl) <|
  ac_cons (so_icmp_eq dL_law_1033 (by decide) rfl) <|
  ac_cons (so_iconst dL_law_1036 (by decide +kernel) rfl) <|
  ac_cons (so_zreturn rfl dL_law_1037) <|
  ac_cons (so_goto dL_law_1038 (by decide)) <| ac_nil
def k_l13 (scr : Nat → Nat → (Nat → Int32) → Prop) : List (Nat × ac_op) := [(1041, op_aload 1 1042),
  (1042, op_aload 0 1043),
  (1043, op_iload 4 1045),
  (1045, op_push (.int 1) 1046),
  (1046, op_ii (fun x y => x + y) 1047),
  (1047, op_sld scr 1048),
  (1048, op_aload 0 1049),
  (1049, op_iload 4 1051),
  (1051, op_push (.int 2) 1052),
  (1052, op_ii (fun x y => x + y) 1053),
  (1053, op_sld scr 1054),
  (1054, op_aload 0 1055),
  (1055, op_iload 4 1057),
  (1057, op_push (.int 3) 1058),
  (1058, op_ii (fun x y => x + y) 1059),
  (1059, op_sld scr 1060),
  (1060, op_callS rm_L_law [] T_L_refer rm_L_refer 4 1060 1063),
  (1063, op_istore 5 1065),
  (1065, op_aload 2 1066),
  (1066, op_aload 0 1067),
  (1067, op_iload 4 1069),
  (1069, op_push (.int 1) 1070),
  (1070, op_ii (fun x y => x + y) 1071),
  (1071, op_sld scr 1072),
  (1072, op_aload 0 1073),
  (1073, op_iload 4 1075),
  (1075, op_push (.int 2) 1076),
  (1076, op_ii (fun x y => x + y) 1077),
  (1077, op_sld scr 1078),
  (1078, op_aload 0 1079),
  (1079, op_iload 4 1081),
  (1081, op_push (.int 3) 1082),
  (1082, op_ii (fun x y => x + y) 1083),
  (1083, op_sld scr 1084),
  (1084, op_callV rm_L_law [] 9 T_X6_refer rm_X6_refer 3 1084 1087),
  (1087, op_aload 2 1088),
  (1088, op_callV rm_L_law [] 9 T_X6_thrown rm_X6_thrown 0 1088 1091),
  (1091, op_iload 5 1093),
  (1093, op_icmp (fun x y => x = y) 1098 1096),
  (1096, op_push (.int 0) 1097),
  (1097, op_zreturn rm_L_law),
  (1098, op_goto 1665)]
set_option maxRecDepth 100000 in
set_option maxHeartbeats 4000000 in
theorem s_l13 (scr : Nat → Nat → (Nat → Int32) → Prop) : ∀ x ∈ k_l13 scr, ac_So M_L_law scr x.1 x.2 :=
  ac_cons (so_aload_n dL_law_1041 rfl rfl) <|
  ac_cons (so_aload_n dL_law_1042 rfl rfl) <|
  ac_cons (so_iload dL_law_1043 rfl) <|
  ac_cons (so_iconst dL_law_1045 (by decide +kernel) rfl) <|
  ac_cons (so_iadd dL_law_1046 rfl) <|
  ac_cons (so_sld dL_law_1047 rfl) <|
  ac_cons (so_aload_n dL_law_1048 rfl rfl) <|
  ac_cons (so_iload dL_law_1049 rfl) <|
  ac_cons (so_iconst dL_law_1051 (by decide +kernel) rfl) <|
  ac_cons (so_iadd dL_law_1052 rfl) <|
  ac_cons (so_sld dL_law_1053 rfl) <|
  ac_cons (so_aload_n dL_law_1054 rfl rfl) <|
  ac_cons (so_iload dL_law_1055 rfl) <|
  ac_cons (so_iconst dL_law_1057 (by decide +kernel) rfl) <|
  ac_cons (so_iadd dL_law_1058 rfl) <|
  ac_cons (so_sld dL_law_1059 rfl) <|
  ac_cons (so_callSX (N := M_L_refer) C_L_refer rfl ⟨wd_560, wd_23, dy_L_refer, ⟨by decide, by decide⟩, tb_L_law⟩ dL_law_1060 wd_558 wd_559 rfl) <|
  ac_cons (so_istore dL_law_1063 rfl) <|
  ac_cons (so_aload_n dL_law_1065 rfl rfl) <|
  ac_cons (so_aload_n dL_law_1066 rfl rfl) <|
  ac_cons (so_iload dL_law_1067 rfl) <|
  ac_cons (so_iconst dL_law_1069 (by decide +kernel) rfl) <|
  ac_cons (so_iadd dL_law_1070 rfl) <|
  ac_cons (so_sld dL_law_1071 rfl) <|
  ac_cons (so_aload_n dL_law_1072 rfl rfl) <|
  ac_cons (so_iload dL_law_1073 rfl) <|
  ac_cons (so_iconst dL_law_1075 (by decide +kernel) rfl) <|
  ac_cons (so_iadd dL_law_1076 rfl) <|
  ac_cons (so_sld dL_law_1077 rfl) <|
  ac_cons (so_aload_n dL_law_1078 rfl rfl) <|
  ac_cons (so_iload dL_law_1079 rfl) <|
  ac_cons (so_iconst dL_law_1081 (by decide +kernel) rfl) <|
  ac_cons (so_iadd dL_law_1082 rfl) <|
  ac_cons (so_sld dL_law_1083 rfl) <|
  ac_cons (so_callV (N := M_X6_refer) (ci := 9) C_X6_refer rfl ⟨wd_780, wd_25, dy_X6_refer, ⟨by decide, by decide⟩, tb_L_law⟩ rfl dL_law_1084 wd_777 wd_778 wd_779 rfl) <|
  ac_cons (so_aload_n dL_law_1087 rfl rfl) <|
  ac_cons (so_callV (N := M_X6_thrown) (ci := 9) C_X6_thrown rfl ⟨wd_672, wd_25, dy_X6_thrown, ⟨by decide, by decide⟩, tb_L_law⟩ rfl dL_law_1088 wd_669 wd_670 wd_671 rfl) <|
  ac_cons (so_iload dL_law_1091 rfl) <|
  ac_cons (so_icmp_eq dL_law_1093 (by decide) rfl) <|
  ac_cons (so_iconst dL_law_1096 (by decide +kernel) rfl) <|
  ac_cons (so_zreturn rfl dL_law_1097) <|
  ac_cons (so_goto dL_law_1098 (by decide)) <| ac_nil
def k_l14 (scr : Nat → Nat → (Nat → Int32) → Prop) : List (Nat × ac_op) := [(1101, op_aload 1 1102),
  (1102, op_aload 0 1103),
  (1103, op_iload 4 1105),
  (1105, op_push (.int 1) 1106),
  (1106, op_ii (fun x y => x + y) 1107),
  (1107, op_sld scr 1108),
  (1108, op_aload 0 1109),
  (1109, op_iload 4 1111),
  (1111, op_push (.int 2) 1112),
  (1112, op_ii (fun x y => x + y) 1113),
  (1113, op_sld scr 1114),
  (1114, op_aload 0 1115),
  (1115, op_iload 4 1117),
  (1117, op_push (.int 3) 1118),
  (1118, op_ii (fun x y => x + y) 1119),
  (1119, op_sld scr 1120),
  (1120, op_aload 3 1121),
  (1121, op_callS rm_L_law [] T_L_fetch rm_L_fetch 5 1121 1124),
  (1124, op_istore 5 1126),
  (1126, op_aload 2 1127),
  (1127, op_aload 0 1128),
  (1128, op_iload 4 1130),
  (1130, op_push (.int 1) 1131),
  (1131, op_ii (fun x y => x + y) 1132),
  (1132, op_sld scr 1133),
  (1133, op_aload 0 1134),
  (1134, op_iload 4 1136),
  (1136, op_push (.int 2) 1137),
  (1137, op_ii (fun x y => x + y) 1138),
  (1138, op_sld scr 1139),
  (1139, op_aload 0 1140),
  (1140, op_iload 4 1142),
  (1142, op_push (.int 3) 1143),
  (1143, op_ii (fun x y => x + y) 1144),
  (1144, op_sld scr 1145),
  (1145, op_callV rm_L_law [] 9 T_X6_fetch rm_X6_fetch 3 1145 1148),
  (1148, op_istore 6 1150),
  (1150, op_aload 2 1151),
  (1151, op_callV rm_L_law [] 9 T_X6_thrown rm_X6_thrown 0 1151 1154),
  (1154, op_iload 5 1156),
  (1156, op_icmp (fun x y => x = y) 1161 1159),
  (1159, op_push (.int 0) 1160),
  (1160, op_zreturn rm_L_law),
  (1161, op_iload 5 1163),
  (1163, op_if (fun x => ¬ x = 0) 1178 1166),
  (1166, op_aload 3 1167),
  (1167, op_push (.int 0) 1168),
  (1168, op_lald 1169),
  (1169, op_iload 6 1171),
  (1171, op_i (fun x => .long x.toInt64) 1172),
  (1172, op_lcmp 1173),
  (1173, op_if (fun x => x = 0) 1178 1176),
  (1176, op_push (.int 0) 1177),
  (1177, op_zreturn rm_L_law),
  (1178, op_goto 1665)]
set_option maxRecDepth 100000 in
set_option maxHeartbeats 4000000 in
theorem s_l14 (scr : Nat → Nat → (Nat → Int32) → Prop) : ∀ x ∈ k_l14 scr, ac_So M_L_law scr x.1 x.2 :=
  ac_cons (so_aload_n dL_law_1101 rfl rfl) <|
  ac_cons (so_aload_n dL_law_1102 rfl rfl) <|
  ac_cons (so_iload dL_law_1103 rfl) <|
  ac_cons (so_iconst dL_law_1105 (by decide +kernel) rfl) <|
  ac_cons (so_iadd dL_law_1106 rfl) <|
  ac_cons (so_sld dL_law_1107 rfl) <|
  ac_cons (so_aload_n dL_law_1108 rfl rfl) <|
  ac_cons (so_iload dL_law_1109 rfl) <|
  ac_cons (so_iconst dL_law_1111 (by decide +kernel) rfl) <|
  ac_cons (so_iadd dL_law_1112 rfl) <|
  ac_cons (so_sld dL_law_1113 rfl) <|
  ac_cons (so_aload_n dL_law_1114 rfl rfl) <|
  ac_cons (so_iload dL_law_1115 rfl) <|
  ac_cons (so_iconst dL_law_1117 (by decide +kernel) rfl) <|
  ac_cons (so_iadd dL_law_1118 rfl) <|
  ac_cons (so_sld dL_law_1119 rfl) <|
  ac_cons (so_aload_n dL_law_1120 rfl rfl) <|
  ac_cons (so_callSX (N := M_L_fetch) C_L_fetch rfl ⟨wd_567, wd_23, dy_L_fetch, ⟨by decide, by decide⟩, tb_L_law⟩ dL_law_1121 wd_565 wd_566 rfl) <|
  ac_cons (so_istore dL_law_1124 rfl) <|
  ac_cons (so_aload_n dL_law_1126 rfl rfl) <|
  ac_cons (so_aload_n dL_law_1127 rfl rfl) <|
  ac_cons (so_iload dL_law_1128 rfl) <|
  ac_cons (so_iconst dL_law_1130 (by decide +kernel) rfl) <|
  ac_cons (so_iadd dL_law_1131 rfl) <|
  ac_cons (so_sld dL_law_1132 rfl) <|
  ac_cons (so_aload_n dL_law_1133 rfl rfl) <|
  ac_cons (so_iload dL_law_1134 rfl) <|
  ac_cons (so_iconst dL_law_1136 (by decide +kernel) rfl) <|
  ac_cons (so_iadd dL_law_1137 rfl) <|
  ac_cons (so_sld dL_law_1138 rfl) <|
  ac_cons (so_aload_n dL_law_1139 rfl rfl) <|
  ac_cons (so_iload dL_law_1140 rfl) <|
  ac_cons (so_iconst dL_law_1142 (by decide +kernel) rfl) <|
  ac_cons (so_iadd dL_law_1143 rfl) <|
  ac_cons (so_sld dL_law_1144 rfl) <|
  ac_cons (so_callV (N := M_X6_fetch) (ci := 9) C_X6_fetch rfl ⟨wd_788, wd_25, dy_X6_fetch, ⟨by decide, by decide⟩, tb_L_law⟩ rfl dL_law_1145 wd_785 wd_786 wd_787 rfl) <|
  ac_cons (so_istore dL_law_1148 rfl) <|
  ac_cons (so_aload_n dL_law_1150 rfl rfl) <|
  ac_cons (so_callV (N := M_X6_thrown) (ci := 9) C_X6_thrown rfl ⟨wd_672, wd_25, dy_X6_thrown, ⟨by decide, by decide⟩, tb_L_law⟩ rfl dL_law_1151 wd_669 wd_670 wd_671 rfl) <|
  ac_cons (so_iload dL_law_1154 rfl) <|
  ac_cons (so_icmp_eq dL_law_1156 (by decide) rfl) <|
  ac_cons (so_iconst dL_law_1159 (by decide +kernel) rfl) <|
  ac_cons (so_zreturn rfl dL_law_1160) <|
  ac_cons (so_iload dL_law_1161 rfl) <|
  ac_cons (so_if_ne dL_law_1163 (by decide) rfl) <|
  ac_cons (so_aload_n dL_law_1166 rfl rfl) <|
  ac_cons (so_iconst dL_law_1167 (by decide +kernel) rfl) <|
  ac_cons (so_lald dL_law_1168 rfl) <|
  ac_cons (so_iload dL_law_1169 rfl) <|
  ac_cons (so_i2l dL_law_1171 rfl) <|
  ac_cons (so_lcmp dL_law_1172 rfl) <|
  ac_cons (so_if_eq dL_law_1173 (by decide) rfl) <|
  ac_cons (so_iconst dL_law_1176 (by decide +kernel) rfl) <|
  ac_cons (so_zreturn rfl dL_law_1177) <|
  ac_cons (so_goto dL_law_1178 (by decide)) <| ac_nil
def k_l15 (scr : Nat → Nat → (Nat → Int32) → Prop) : List (Nat × ac_op) := [(1181, op_aload 1 1182),
  (1182, op_aload 0 1183),
  (1183, op_iload 4 1185),
  (1185, op_push (.int 1) 1186),
  (1186, op_ii (fun x y => x + y) 1187),
  (1187, op_sld scr 1188),
  (1188, op_aload 0 1189),
  (1189, op_iload 4 1191),
  (1191, op_push (.int 2) 1192),
  (1192, op_ii (fun x y => x + y) 1193),
  (1193, op_sld scr 1194),
  (1194, op_callS rm_L_law [] T_L_link rm_L_link 3 1194 1197),
  (1197, op_istore 5 1199),
  (1199, op_aload 2 1200),
  (1200, op_aload 0 1201),
  (1201, op_iload 4 1203),
  (1203, op_push (.int 1) 1204),
  (1204, op_ii (fun x y => x + y) 1205),
  (1205, op_sld scr 1206),
  (1206, op_aload 0 1207),
  (1207, op_iload 4 1209),
  (1209, op_push (.int 2) 1210),
  (1210, op_ii (fun x y => x + y) 1211),
  (1211, op_sld scr 1212),
  (1212, op_callV rm_L_law [] 9 T_X6_link rm_X6_link 2 1212 1215),
  (1215, op_aload 2 1216),
  (1216, op_callV rm_L_law [] 9 T_X6_thrown rm_X6_thrown 0 1216 1219),
  (1219, op_iload 5 1221),
  (1221, op_icmp (fun x y => x = y) 1226 1224),
  (1224, op_push (.int 0) 1225),
  (1225, op_zreturn rm_L_law),
  (1226, op_goto 1665)]
set_option maxRecDepth 100000 in
set_option maxHeartbeats 4000000 in
theorem s_l15 (scr : Nat → Nat → (Nat → Int32) → Prop) : ∀ x ∈ k_l15 scr, ac_So M_L_law scr x.1 x.2 :=
  ac_cons (so_aload_n dL_law_1181 rfl rfl) <|
  ac_cons (so_aload_n dL_law_1182 rfl rfl) <|
  ac_cons (so_iload dL_law_1183 rfl) <|
  ac_cons (so_iconst dL_law_1185 (by decide +kernel) rfl) <|
  ac_cons (so_iadd dL_law_1186 rfl) <|
  ac_cons (so_sld dL_law_1187 rfl) <|
  ac_cons (so_aload_n dL_law_1188 rfl rfl) <|
  ac_cons (so_iload dL_law_1189 rfl) <|
  ac_cons (so_iconst dL_law_1191 (by decide +kernel) rfl) <|
  ac_cons (so_iadd dL_law_1192 rfl) <|
  ac_cons (so_sld dL_law_1193 rfl) <|
  ac_cons (so_callSX (N := M_L_link) C_L_link rfl ⟨wd_574, wd_23, dy_L_link, ⟨by decide, by decide⟩, tb_L_law⟩ dL_law_1194 wd_572 wd_573 rfl) <|
  ac_cons (so_istore dL_law_1197 rfl) <|
  ac_cons (so_aload_n dL_law_1199 rfl rfl) <|
  ac_cons (so_aload_n dL_law_1200 rfl rfl) <|
  ac_cons (so_iload dL_law_1201 rfl) <|
  ac_cons (so_iconst dL_law_1203 (by decide +kernel) rfl) <|
  ac_cons (so_iadd dL_law_1204 rfl) <|
  ac_cons (so_sld dL_law_1205 rfl) <|
  ac_cons (so_aload_n dL_law_1206 rfl rfl) <|
  ac_cons (so_iload dL_law_1207 rfl) <|
  ac_cons (so_iconst dL_law_1209 (by decide +kernel) rfl) <|
  ac_cons (so_iadd dL_law_1210 rfl) <|
  ac_cons (so_sld dL_law_1211 rfl) <|
  ac_cons (so_callV (N := M_X6_link) (ci := 9) C_X6_link rfl ⟨wd_792, wd_25, dy_X6_link, ⟨by decide, by decide⟩, tb_L_law⟩ rfl dL_law_1212 wd_789 wd_790 wd_791 rfl) <|
  ac_cons (so_aload_n dL_law_1215 rfl rfl) <|
  ac_cons (so_callV (N := M_X6_thrown) (ci := 9) C_X6_thrown rfl ⟨wd_672, wd_25, dy_X6_thrown, ⟨by decide, by decide⟩, tb_L_law⟩ rfl dL_law_1216 wd_669 wd_670 wd_671 rfl) <|
  ac_cons (so_iload dL_law_1219 rfl) <|
  ac_cons (so_icmp_eq dL_law_1221 (by decide) rfl) <|
  ac_cons (so_iconst dL_law_1224 (by decide +kernel) rfl) <|
  ac_cons (so_zreturn rfl dL_law_1225) <|
  ac_cons (so_goto dL_law_1226 (by decide)) <| ac_nil
def k_l16 (scr : Nat → Nat → (Nat → Int32) → Prop) : List (Nat × ac_op) := [(1229, op_aload 1 1230),
  (1230, op_aload 0 1231),
  (1231, op_iload 4 1233),
  (1233, op_push (.int 1) 1234),
  (1234, op_ii (fun x y => x + y) 1235),
  (1235, op_sld scr 1236),
  (1236, op_aload 0 1237),
  (1237, op_iload 4 1239),
  (1239, op_push (.int 2) 1240),
  (1240, op_ii (fun x y => x + y) 1241),
  (1241, op_sld scr 1242),
  (1242, op_aload 3 1243),
  (1243, op_callS rm_L_law [] T_L_follow rm_L_follow 4 1243 1246),
  (1246, op_istore 5 1248),
  (1248, op_aload 2 1249),
  (1249, op_aload 0 1250),
  (1250, op_iload 4 1252),
  (1252, op_push (.int 1) 1253),
  (1253, op_ii (fun x y => x + y) 1254),
  (1254, op_sld scr 1255),
  (1255, op_aload 0 1256),
  (1256, op_iload 4 1258),
  (1258, op_push (.int 2) 1259),
  (1259, op_ii (fun x y => x + y) 1260),
  (1260, op_sld scr 1261),
  (1261, op_callV rm_L_law [] 9 T_X6_follow rm_X6_follow 2 1261 1264),
  (1264, op_istore 6 1266),
  (1266, op_aload 2 1267),
  (1267, op_callV rm_L_law [] 9 T_X6_thrown rm_X6_thrown 0 1267 1270),
  (1270, op_iload 5 1272),
  (1272, op_icmp (fun x y => x = y) 1277 1275),
  (1275, op_push (.int 0) 1276),
  (1276, op_zreturn rm_L_law),
  (1277, op_iload 5 1279),
  (1279, op_if (fun x => ¬ x = 0) 1301 1282),
  (1282, op_aload 3 1283),
  (1283, op_push (.int 0) 1284),
  (1284, op_lald 1285),
  (1285, op_iload 6 1287),
  (1287, op_if (fun x => x = 0) 1294 1290),
  (1290, op_push (.long 1) 1291),
  (1291, op_goto 1295),
  (1294, op_push (.long 0) 1295),
  (1295, op_lcmp 1296),
  (1296, op_if (fun x => x = 0) 1301 1299),
  (1299, op_push (.int 0) 1300),
  (1300, op_zreturn rm_L_law),
  (1301, op_goto 1665)]
set_option maxRecDepth 100000 in
set_option maxHeartbeats 4000000 in
theorem s_l16 (scr : Nat → Nat → (Nat → Int32) → Prop) : ∀ x ∈ k_l16 scr, ac_So M_L_law scr x.1 x.2 :=
  ac_cons (so_aload_n dL_law_1229 rfl rfl) <|
  ac_cons (so_aload_n dL_law_1230 rfl rfl) <|
  ac_cons (so_iload dL_law_1231 rfl) <|
  ac_cons (so_iconst dL_law_1233 (by decide +kernel) rfl) <|
  ac_cons (so_iadd dL_law_1234 rfl) <|
  ac_cons (so_sld dL_law_1235 rfl) <|
  ac_cons (so_aload_n dL_law_1236 rfl rfl) <|
  ac_cons (so_iload dL_law_1237 rfl) <|
  ac_cons (so_iconst dL_law_1239 (by decide +kernel) rfl) <|
  ac_cons (so_iadd dL_law_1240 rfl) <|
  ac_cons (so_sld dL_law_1241 rfl) <|
  ac_cons (so_aload_n dL_law_1242 rfl rfl) <|
  ac_cons (so_callSX (N := M_L_follow) C_L_follow rfl ⟨wd_589, wd_23, dy_L_follow, ⟨by decide, by decide⟩, tb_L_law⟩ dL_law_1243 wd_587 wd_588 rfl) <|
  ac_cons (so_istore dL_law_1246 rfl) <|
  ac_cons (so_aload_n dL_law_1248 rfl rfl) <|
  ac_cons (so_aload_n dL_law_1249 rfl rfl) <|
  ac_cons (so_iload dL_law_1250 rfl) <|
  ac_cons (so_iconst dL_law_1252 (by decide +kernel) rfl) <|
  ac_cons (so_iadd dL_law_1253 rfl) <|
  ac_cons (so_sld dL_law_1254 rfl) <|
  ac_cons (so_aload_n dL_law_1255 rfl rfl) <|
  ac_cons (so_iload dL_law_1256 rfl) <|
  ac_cons (so_iconst dL_law_1258 (by decide +kernel) rfl) <|
  ac_cons (so_iadd dL_law_1259 rfl) <|
  ac_cons (so_sld dL_law_1260 rfl) <|
  ac_cons (so_callV (N := M_X6_follow) (ci := 9) C_X6_follow rfl ⟨wd_800, wd_25, dy_X6_follow, ⟨by decide, by decide⟩, tb_L_law⟩ rfl dL_law_1261 wd_797 wd_798 wd_799 rfl) <|
  ac_cons (so_istore dL_law_1264 rfl) <|
  ac_cons (so_aload_n dL_law_1266 rfl rfl) <|
  ac_cons (so_callV (N := M_X6_thrown) (ci := 9) C_X6_thrown rfl ⟨wd_672, wd_25, dy_X6_thrown, ⟨by decide, by decide⟩, tb_L_law⟩ rfl dL_law_1267 wd_669 wd_670 wd_671 rfl) <|
  ac_cons (so_iload dL_law_1270 rfl) <|
  ac_cons (so_icmp_eq dL_law_1272 (by decide) rfl) <|
  ac_cons (so_iconst dL_law_1275 (by decide +kernel) rfl) <|
  ac_cons (so_zreturn rfl dL_law_1276) <|
  ac_cons (so_iload dL_law_1277 rfl) <|
  ac_cons (so_if_ne dL_law_1279 (by decide) rfl) <|
  ac_cons (so_aload_n dL_law_1282 rfl rfl) <|
  ac_cons (so_iconst dL_law_1283 (by decide +kernel) rfl) <|
  ac_cons (so_lald dL_law_1284 rfl) <|
  ac_cons (so_iload dL_law_1285 rfl) <|
  ac_cons (so_if_eq dL_law_1287 (by decide) rfl) <|
  ac_cons (so_lconst dL_law_1290 (by decide +kernel) rfl) <|
  ac_cons (so_goto dL_law_1291 (by decide)) <|
  ac_cons (so_lconst dL_law_1294 (by decide +kernel) rfl) <|
  ac_cons (so_lcmp dL_law_1295 rfl) <|
  ac_cons (so_if_eq dL_law_1296 (by decide) rfl) <|
  ac_cons (so_iconst dL_law_1299 (by decide +kernel) rfl) <|
  ac_cons (so_zreturn rfl dL_law_1300) <|
  ac_cons (so_goto dL_law_1301 (by decide)) <| ac_nil
def k_l17 (scr : Nat → Nat → (Nat → Int32) → Prop) : List (Nat × ac_op) := [(1304, op_aload 1 1305),
  (1305, op_aload 0 1306),
  (1306, op_iload 4 1308),
  (1308, op_push (.int 1) 1309),
  (1309, op_ii (fun x y => x + y) 1310),
  (1310, op_sld scr 1311),
  (1311, op_aload 0 1312),
  (1312, op_iload 4 1314),
  (1314, op_push (.int 2) 1315),
  (1315, op_ii (fun x y => x + y) 1316),
  (1316, op_sld scr 1317),
  (1317, op_i (fun x => .long x.toInt64) 1318),
  (1318, op_push (.int 32) 1320),
  (1320, op_lshl 1321),
  (1321, op_aload 0 1322),
  (1322, op_iload 4 1324),
  (1324, op_push (.int 3) 1325),
  (1325, op_ii (fun x y => x + y) 1326),
  (1326, op_sld scr 1327),
  (1327, op_i (fun x => .long x.toInt64) 1328),
  (1328, op_push (.long 4294967295) 1331),
  (1331, op_ll (fun x y => x &&& y) 1332),
  (1332, op_ll (fun x y => x ||| y) 1333),
  (1333, op_aload 3 1334),
  (1334, op_callS rm_L_law [] T_L_exchange rm_L_exchange 4 1334 1337),
  (1337, op_istore 5 1339),
  (1339, op_aload 2 1340),
  (1340, op_aload 0 1341),
  (1341, op_iload 4 1343),
  (1343, op_push (.int 1) 1344),
  (1344, op_ii (fun x y => x + y) 1345),
  (1345, op_sld scr 1346),
  (1346, op_aload 0 1347),
  (1347, op_iload 4 1349),
  (1349, op_push (.int 2) 1350),
  (1350, op_ii (fun x y => x + y) 1351),
  (1351, op_sld scr 1352),
  (1352, op_i (fun x => .long x.toInt64) 1353),
  (1353, op_push (.int 32) 1355),
  (1355, op_lshl 1356),
  (1356, op_aload 0 1357),
  (1357, op_iload 4 1359),
  (1359, op_push (.int 3) 1360),
  (1360, op_ii (fun x y => x + y) 1361),
  (1361, op_sld scr 1362),
  (1362, op_i (fun x => .long x.toInt64) 1363),
  (1363, op_push (.long 4294967295) 1366),
  (1366, op_ll (fun x y => x &&& y) 1367),
  (1367, op_ll (fun x y => x ||| y) 1368),
  (1368, op_callV rm_L_law [] 9 T_X6_exchange rm_X6_exchange 2 1368 1371),
  (1371, op_lstore 6 1373),
  (1373, op_aload 2 1374),
  (1374, op_callV rm_L_law [] 9 T_X6_thrown rm_X6_thrown 0 1374 1377),
  (1377, op_iload 5 1379),
  (1379, op_icmp (fun x y => x = y) 1384 1382),
  (1382, op_push (.int 0) 1383),
  (1383, op_zreturn rm_L_law),
  (1384, op_iload 5 1386),
  (1386, op_if (fun x => ¬ x = 0) 1400 1389),
  (1389, op_aload 3 1390),
  (1390, op_push (.int 0) 1391),
  (1391, op_lald 1392),
  (1392, op_lload 6 1394),
  (1394, op_lcmp 1395),
  (1395, op_if (fun x => x = 0) 1400 1398),
  (1398, op_push (.int 0) 1399),
  (1399, op_zreturn rm_L_law),
  (1400, op_goto 1665)]
set_option maxRecDepth 100000 in
set_option maxHeartbeats 4000000 in
theorem s_l17 (scr : Nat → Nat → (Nat → Int32) → Prop) : ∀ x ∈ k_l17 scr, ac_So M_L_law scr x.1 x.2 :=
  ac_cons (so_aload_n dL_law_1304 rfl rfl) <|
  ac_cons (so_aload_n dL_law_1305 rfl rfl) <|
  ac_cons (so_iload dL_law_1306 rfl) <|
  ac_cons (so_iconst dL_law_1308 (by decide +kernel) rfl) <|
  ac_cons (so_iadd dL_law_1309 rfl) <|
  ac_cons (so_sld dL_law_1310 rfl) <|
  ac_cons (so_aload_n dL_law_1311 rfl rfl) <|
  ac_cons (so_iload dL_law_1312 rfl) <|
  ac_cons (so_iconst dL_law_1314 (by decide +kernel) rfl) <|
  ac_cons (so_iadd dL_law_1315 rfl) <|
  ac_cons (so_sld dL_law_1316 rfl) <|
  ac_cons (so_i2l dL_law_1317 rfl) <|
  ac_cons (so_bipush dL_law_1318 (by decide +kernel) rfl) <|
  ac_cons (so_lshl dL_law_1320 rfl) <|
  ac_cons (so_aload_n dL_law_1321 rfl rfl) <|
  ac_cons (so_iload dL_law_1322 rfl) <|
  ac_cons (so_iconst dL_law_1324 (by decide +kernel) rfl) <|
  ac_cons (so_iadd dL_law_1325 rfl) <|
  ac_cons (so_sld dL_law_1326 rfl) <|
  ac_cons (so_i2l dL_law_1327 rfl) <|
  ac_cons (so_ldc2 dL_law_1328 wd_824 rfl) <|
  ac_cons (so_land dL_law_1331 rfl) <|
  ac_cons (so_lor dL_law_1332 rfl) <|
  ac_cons (so_aload_n dL_law_1333 rfl rfl) <|
  ac_cons (so_callSX (N := M_L_exchange) C_L_exchange rfl ⟨wd_596, wd_23, dy_L_exchange, ⟨by decide, by decide⟩, tb_L_law⟩ dL_law_1334 wd_594 wd_595 rfl) <|
  ac_cons (so_istore dL_law_1337 rfl) <|
  ac_cons (so_aload_n dL_law_1339 rfl rfl) <|
  ac_cons (so_aload_n dL_law_1340 rfl rfl) <|
  ac_cons (so_iload dL_law_1341 rfl) <|
  ac_cons (so_iconst dL_law_1343 (by decide +kernel) rfl) <|
  ac_cons (so_iadd dL_law_1344 rfl) <|
  ac_cons (so_sld dL_law_1345 rfl) <|
  ac_cons (so_aload_n dL_law_1346 rfl rfl) <|
  ac_cons (so_iload dL_law_1347 rfl) <|
  ac_cons (so_iconst dL_law_1349 (by decide +kernel) rfl) <|
  ac_cons (so_iadd dL_law_1350 rfl) <|
  ac_cons (so_sld dL_law_1351 rfl) <|
  ac_cons (so_i2l dL_law_1352 rfl) <|
  ac_cons (so_bipush dL_law_1353 (by decide +kernel) rfl) <|
  ac_cons (so_lshl dL_law_1355 rfl) <|
  ac_cons (so_aload_n dL_law_1356 rfl rfl) <|
  ac_cons (so_iload dL_law_1357 rfl) <|
  ac_cons (so_iconst dL_law_1359 (by decide +kernel) rfl) <|
  ac_cons (so_iadd dL_law_1360 rfl) <|
  ac_cons (so_sld dL_law_1361 rfl) <|
  ac_cons (so_i2l dL_law_1362 rfl) <|
  ac_cons (so_ldc2 dL_law_1363 wd_824 rfl) <|
  ac_cons (so_land dL_law_1366 rfl) <|
  ac_cons (so_lor dL_law_1367 rfl) <|
  ac_cons (so_callV (N := M_X6_exchange) (ci := 9) C_X6_exchange rfl ⟨wd_804, wd_25, dy_X6_exchange, ⟨by decide, by decide⟩, tb_L_law⟩ rfl dL_law_1368 wd_801 wd_802 wd_803 rfl) <|
  ac_cons (so_lstore dL_law_1371 rfl) <|
  ac_cons (so_aload_n dL_law_1373 rfl rfl) <|
  ac_cons (so_callV (N := M_X6_thrown) (ci := 9) C_X6_thrown rfl ⟨wd_672, wd_25, dy_X6_thrown, ⟨by decide, by decide⟩, tb_L_law⟩ rfl dL_law_1374 wd_669 wd_670 wd_671 rfl) <|
  ac_cons (so_iload dL_law_1377 rfl) <|
  ac_cons (so_icmp_eq dL_law_1379 (by decide) rfl) <|
  ac_cons (so_iconst dL_law_1382 (by decide +kernel) rfl) <|
  ac_cons (so_zreturn rfl dL_law_1383) <|
  ac_cons (so_iload dL_law_1384 rfl) <|
  ac_cons (so_if_ne dL_law_1386 (by decide) rfl) <|
  ac_cons (so_aload_n dL_law_1389 rfl rfl) <|
  ac_cons (so_iconst dL_law_1390 (by decide +kernel) rfl) <|
  ac_cons (so_lald dL_law_1391 rfl) <|
  ac_cons (so_lload dL_law_1392 rfl) <|
  ac_cons (so_lcmp dL_law_1394 rfl) <|
  ac_cons (so_if_eq dL_law_1395 (by decide) rfl) <|
  ac_cons (so_iconst dL_law_1398 (by decide +kernel) rfl) <|
  ac_cons (so_zreturn rfl dL_law_1399) <|
  ac_cons (so_goto dL_law_1400 (by decide)) <| ac_nil
def k_l18 (scr : Nat → Nat → (Nat → Int32) → Prop) : List (Nat × ac_op) := [(1403, op_aload 1 1404),
  (1404, op_aload 0 1405),
  (1405, op_iload 4 1407),
  (1407, op_push (.int 1) 1408),
  (1408, op_ii (fun x y => x + y) 1409),
  (1409, op_sld scr 1410),
  (1410, op_aload 3 1411),
  (1411, op_callS rm_L_law [] T_L_total rm_L_total 3 1411 1414),
  (1414, op_istore 5 1416),
  (1416, op_aload 2 1417),
  (1417, op_aload 0 1418),
  (1418, op_iload 4 1420),
  (1420, op_push (.int 1) 1421),
  (1421, op_ii (fun x y => x + y) 1422),
  (1422, op_sld scr 1423),
  (1423, op_callV rm_L_law [] 9 T_X6_total rm_X6_total 1 1423 1426),
  (1426, op_lstore 6 1428),
  (1428, op_aload 2 1429),
  (1429, op_callV rm_L_law [] 9 T_X6_thrown rm_X6_thrown 0 1429 1432),
  (1432, op_iload 5 1434),
  (1434, op_icmp (fun x y => x = y) 1439 1437),
  (1437, op_push (.int 0) 1438),
  (1438, op_zreturn rm_L_law),
  (1439, op_iload 5 1441),
  (1441, op_if (fun x => ¬ x = 0) 1455 1444),
  (1444, op_aload 3 1445),
  (1445, op_push (.int 0) 1446),
  (1446, op_lald 1447),
  (1447, op_lload 6 1449),
  (1449, op_lcmp 1450),
  (1450, op_if (fun x => x = 0) 1455 1453),
  (1453, op_push (.int 0) 1454),
  (1454, op_zreturn rm_L_law),
  (1455, op_goto 1665)]
set_option maxRecDepth 100000 in
set_option maxHeartbeats 4000000 in
theorem s_l18 (scr : Nat → Nat → (Nat → Int32) → Prop) : ∀ x ∈ k_l18 scr, ac_So M_L_law scr x.1 x.2 :=
  ac_cons (so_aload_n dL_law_1403 rfl rfl) <|
  ac_cons (so_aload_n dL_law_1404 rfl rfl) <|
  ac_cons (so_iload dL_law_1405 rfl) <|
  ac_cons (so_iconst dL_law_1407 (by decide +kernel) rfl) <|
  ac_cons (so_iadd dL_law_1408 rfl) <|
  ac_cons (so_sld dL_law_1409 rfl) <|
  ac_cons (so_aload_n dL_law_1410 rfl rfl) <|
  ac_cons (so_callSX (N := M_L_total) C_L_total rfl ⟨wd_603, wd_23, dy_L_total, ⟨by decide, by decide⟩, tb_L_law⟩ dL_law_1411 wd_601 wd_602 rfl) <|
  ac_cons (so_istore dL_law_1414 rfl) <|
  ac_cons (so_aload_n dL_law_1416 rfl rfl) <|
  ac_cons (so_aload_n dL_law_1417 rfl rfl) <|
  ac_cons (so_iload dL_law_1418 rfl) <|
  ac_cons (so_iconst dL_law_1420 (by decide +kernel) rfl) <|
  ac_cons (so_iadd dL_law_1421 rfl) <|
  ac_cons (so_sld dL_law_1422 rfl) <|
  ac_cons (so_callV (N := M_X6_total) (ci := 9) C_X6_total rfl ⟨wd_808, wd_25, dy_X6_total, ⟨by decide, by decide⟩, tb_L_law⟩ rfl dL_law_1423 wd_805 wd_806 wd_807 rfl) <|
  ac_cons (so_lstore dL_law_1426 rfl) <|
  ac_cons (so_aload_n dL_law_1428 rfl rfl) <|
  ac_cons (so_callV (N := M_X6_thrown) (ci := 9) C_X6_thrown rfl ⟨wd_672, wd_25, dy_X6_thrown, ⟨by decide, by decide⟩, tb_L_law⟩ rfl dL_law_1429 wd_669 wd_670 wd_671 rfl) <|
  ac_cons (so_iload dL_law_1432 rfl) <|
  ac_cons (so_icmp_eq dL_law_1434 (by decide) rfl) <|
  ac_cons (so_iconst dL_law_1437 (by decide +kernel) rfl) <|
  ac_cons (so_zreturn rfl dL_law_1438) <|
  ac_cons (so_iload dL_law_1439 rfl) <|
  ac_cons (so_if_ne dL_law_1441 (by decide) rfl) <|
  ac_cons (so_aload_n dL_law_1444 rfl rfl) <|
  ac_cons (so_iconst dL_law_1445 (by decide +kernel) rfl) <|
  ac_cons (so_lald dL_law_1446 rfl) <|
  ac_cons (so_lload dL_law_1447 rfl) <|
  ac_cons (so_lcmp dL_law_1449 rfl) <|
  ac_cons (so_if_eq dL_law_1450 (by decide) rfl) <|
  ac_cons (so_iconst dL_law_1453 (by decide +kernel) rfl) <|
  ac_cons (so_zreturn rfl dL_law_1454) <|
  ac_cons (so_goto dL_law_1455 (by decide)) <| ac_nil
def k_l19 (scr : Nat → Nat → (Nat → Int32) → Prop) : List (Nat × ac_op) := [(1458, op_aload 1 1459),
  (1459, op_aload 0 1460),
  (1460, op_iload 4 1462),
  (1462, op_push (.int 1) 1463),
  (1463, op_ii (fun x y => x + y) 1464),
  (1464, op_sld scr 1465),
  (1465, op_aload 0 1466),
  (1466, op_iload 4 1468),
  (1468, op_push (.int 2) 1469),
  (1469, op_ii (fun x y => x + y) 1470),
  (1470, op_sld scr 1471),
  (1471, op_aload 0 1472),
  (1472, op_iload 4 1474),
  (1474, op_push (.int 3) 1475),
  (1475, op_ii (fun x y => x + y) 1476),
  (1476, op_sld scr 1477),
  (1477, op_aload 0 1478),
  (1478, op_iload 4 1480),
  (1480, op_push (.int 4) 1481),
  (1481, op_ii (fun x y => x + y) 1482),
  (1482, op_sld scr 1483),
  (1483, op_aload 0 1484),
  (1484, op_iload 4 1486),
  (1486, op_push (.int 5) 1487),
  (1487, op_ii (fun x y => x + y) 1488),
  (1488, op_sld scr 1489),
  (1489, op_aload 3 1490),
  (1490, op_callS rm_L_law [] T_L_combine rm_L_combine 7 1490 1493),
  (1493, op_istore 5 1495),
  (1495, op_aload 2 1496),
  (1496, op_aload 0 1497),
  (1497, op_iload 4 1499),
  (1499, op_push (.int 1) 1500),
  (1500, op_ii (fun x y => x + y) 1501),
  (1501, op_sld scr 1502),
  (1502, op_aload 0 1503),
  (1503, op_iload 4 1505),
  (1505, op_push (.int 2) 1506),
  (1506, op_ii (fun x y => x + y) 1507),
  (1507, op_sld scr 1508),
  (1508, op_aload 0 1509),
  (1509, op_iload 4 1511),
  (1511, op_push (.int 3) 1512),
  (1512, op_ii (fun x y => x + y) 1513),
  (1513, op_sld scr 1514),
  (1514, op_aload 0 1515),
  (1515, op_iload 4 1517),
  (1517, op_push (.int 4) 1518),
  (1518, op_ii (fun x y => x + y) 1519),
  (1519, op_sld scr 1520),
  (1520, op_aload 0 1521),
  (1521, op_iload 4 1523),
  (1523, op_push (.int 5) 1524),
  (1524, op_ii (fun x y => x + y) 1525),
  (1525, op_sld scr 1526),
  (1526, op_callV rm_L_law [] 9 T_X6_combine rm_X6_combine 5 1526 1529),
  (1529, op_lstore 6 1531),
  (1531, op_aload 2 1532),
  (1532, op_callV rm_L_law [] 9 T_X6_thrown rm_X6_thrown 0 1532 1535),
  (1535, op_iload 5 1537),
  (1537, op_icmp (fun x y => x = y) 1542 1540),
  (1540, op_push (.int 0) 1541),
  (1541, op_zreturn rm_L_law),
  (1542, op_iload 5 1544),
  (1544, op_if (fun x => ¬ x = 0) 1558 1547),
  (1547, op_aload 3 1548),
  (1548, op_push (.int 0) 1549),
  (1549, op_lald 1550),
  (1550, op_lload 6 1552),
  (1552, op_lcmp 1553),
  (1553, op_if (fun x => x = 0) 1558 1556),
  (1556, op_push (.int 0) 1557),
  (1557, op_zreturn rm_L_law),
  (1558, op_goto 1665)]
set_option maxRecDepth 100000 in
set_option maxHeartbeats 4000000 in
theorem s_l19 (scr : Nat → Nat → (Nat → Int32) → Prop) : ∀ x ∈ k_l19 scr, ac_So M_L_law scr x.1 x.2 :=
  ac_cons (so_aload_n dL_law_1458 rfl rfl) <|
  ac_cons (so_aload_n dL_law_1459 rfl rfl) <|
  ac_cons (so_iload dL_law_1460 rfl) <|
  ac_cons (so_iconst dL_law_1462 (by decide +kernel) rfl) <|
  ac_cons (so_iadd dL_law_1463 rfl) <|
  ac_cons (so_sld dL_law_1464 rfl) <|
  ac_cons (so_aload_n dL_law_1465 rfl rfl) <|
  ac_cons (so_iload dL_law_1466 rfl) <|
  ac_cons (so_iconst dL_law_1468 (by decide +kernel) rfl) <|
  ac_cons (so_iadd dL_law_1469 rfl) <|
  ac_cons (so_sld dL_law_1470 rfl) <|
  ac_cons (so_aload_n dL_law_1471 rfl rfl) <|
  ac_cons (so_iload dL_law_1472 rfl) <|
  ac_cons (so_iconst dL_law_1474 (by decide +kernel) rfl) <|
  ac_cons (so_iadd dL_law_1475 rfl) <|
  ac_cons (so_sld dL_law_1476 rfl) <|
  ac_cons (so_aload_n dL_law_1477 rfl rfl) <|
  ac_cons (so_iload dL_law_1478 rfl) <|
  ac_cons (so_iconst dL_law_1480 (by decide +kernel) rfl) <|
  ac_cons (so_iadd dL_law_1481 rfl) <|
  ac_cons (so_sld dL_law_1482 rfl) <|
  ac_cons (so_aload_n dL_law_1483 rfl rfl) <|
  ac_cons (so_iload dL_law_1484 rfl) <|
  ac_cons (so_iconst dL_law_1486 (by decide +kernel) rfl) <|
  ac_cons (so_iadd dL_law_1487 rfl) <|
  ac_cons (so_sld dL_law_1488 rfl) <|
  ac_cons (so_aload_n dL_law_1489 rfl rfl) <|
  ac_cons (so_callSX (N := M_L_combine) C_L_combine rfl ⟨wd_610, wd_23, dy_L_combine, ⟨by decide, by decide⟩, tb_L_law⟩ dL_law_1490 wd_608 wd_609 rfl) <|
  ac_cons (so_istore dL_law_1493 rfl) <|
  ac_cons (so_aload_n dL_law_1495 rfl rfl) <|
  ac_cons (so_aload_n dL_law_1496 rfl rfl) <|
  ac_cons (so_iload dL_law_1497 rfl) <|
  ac_cons (so_iconst dL_law_1499 (by decide +kernel) rfl) <|
  ac_cons (so_iadd dL_law_1500 rfl) <|
  ac_cons (so_sld dL_law_1501 rfl) <|
  ac_cons (so_aload_n dL_law_1502 rfl rfl) <|
  ac_cons (so_iload dL_law_1503 rfl) <|
  ac_cons (so_iconst dL_law_1505 (by decide +kernel) rfl) <|
  ac_cons (so_iadd dL_law_1506 rfl) <|
  ac_cons (so_sld dL_law_1507 rfl) <|
  ac_cons (so_aload_n dL_law_1508 rfl rfl) <|
  ac_cons (so_iload dL_law_1509 rfl) <|
  ac_cons (so_iconst dL_law_1511 (by decide +kernel) rfl) <|
  ac_cons (so_iadd dL_law_1512 rfl) <|
  ac_cons (so_sld dL_law_1513 rfl) <|
  ac_cons (so_aload_n dL_law_1514 rfl rfl) <|
  ac_cons (so_iload dL_law_1515 rfl) <|
  ac_cons (so_iconst dL_law_1517 (by decide +kernel) rfl) <|
  ac_cons (so_iadd dL_law_1518 rfl) <|
  ac_cons (so_sld dL_law_1519 rfl) <|
  ac_cons (so_aload_n dL_law_1520 rfl rfl) <|
  ac_cons (so_iload dL_law_1521 rfl) <|
  ac_cons (so_iconst dL_law_1523 (by decide +kernel) rfl) <|
  ac_cons (so_iadd dL_law_1524 rfl) <|
  ac_cons (so_sld dL_law_1525 rfl) <|
  ac_cons (so_callV (N := M_X6_combine) (ci := 9) C_X6_combine rfl ⟨wd_812, wd_25, dy_X6_combine, ⟨by decide, by decide⟩, tb_L_law⟩ rfl dL_law_1526 wd_809 wd_810 wd_811 rfl) <|
  ac_cons (so_lstore dL_law_1529 rfl) <|
  ac_cons (so_aload_n dL_law_1531 rfl rfl) <|
  ac_cons (so_callV (N := M_X6_thrown) (ci := 9) C_X6_thrown rfl ⟨wd_672, wd_25, dy_X6_thrown, ⟨by decide, by decide⟩, tb_L_law⟩ rfl dL_law_1532 wd_669 wd_670 wd_671 rfl) <|
  ac_cons (so_iload dL_law_1535 rfl) <|
  ac_cons (so_icmp_eq dL_law_1537 (by decide) rfl) <|
  ac_cons (so_iconst dL_law_1540 (by decide +kernel) rfl) <|
  ac_cons (so_zreturn rfl dL_law_1541) <|
  ac_cons (so_iload dL_law_1542 rfl) <|
  ac_cons (so_if_ne dL_law_1544 (by decide) rfl) <|
  ac_cons (so_aload_n dL_law_1547 rfl rfl) <|
  ac_cons (so_iconst dL_law_1548 (by decide +kernel) rfl) <|
  ac_cons (so_lald dL_law_1549 rfl) <|
  ac_cons (so_lload dL_law_1550 rfl) <|
  ac_cons (so_lcmp dL_law_1552 rfl) <|
  ac_cons (so_if_eq dL_law_1553 (by decide) rfl) <|
  ac_cons (so_iconst dL_law_1556 (by decide +kernel) rfl) <|
  ac_cons (so_zreturn rfl dL_law_1557) <|
  ac_cons (so_goto dL_law_1558 (by decide)) <| ac_nil
def k_l20 (scr : Nat → Nat → (Nat → Int32) → Prop) : List (Nat × ac_op) := [(1561, op_aload 1 1562),
  (1562, op_aload 0 1563),
  (1563, op_iload 4 1565),
  (1565, op_push (.int 1) 1566),
  (1566, op_ii (fun x y => x + y) 1567),
  (1567, op_sld scr 1568),
  (1568, op_aload 0 1569),
  (1569, op_iload 4 1571),
  (1571, op_push (.int 2) 1572),
  (1572, op_ii (fun x y => x + y) 1573),
  (1573, op_sld scr 1574),
  (1574, op_aload 0 1575),
  (1575, op_iload 4 1577),
  (1577, op_push (.int 3) 1578),
  (1578, op_ii (fun x y => x + y) 1579),
  (1579, op_sld scr 1580),
  (1580, op_aload 0 1581),
  (1581, op_iload 4 1583),
  (1583, op_push (.int 4) 1584),
  (1584, op_ii (fun x y => x + y) 1585),
  (1585, op_sld scr 1586),
  (1586, op_aload 0 1587),
  (1587, op_iload 4 1589),
  (1589, op_push (.int 5) 1590),
  (1590, op_ii (fun x y => x + y) 1591),
  (1591, op_sld scr 1592),
  (1592, op_aload 3 1593),
  (1593, op_callS rm_L_law [] T_L_move rm_L_move 7 1593 1596),
  (1596, op_istore 5 1598),
  (1598, op_aload 2 1599),
  (1599, op_aload 0 1600),
  (1600, op_iload 4 1602),
  (1602, op_push (.int 1) 1603),
  (1603, op_ii (fun x y => x + y) 1604),
  (1604, op_sld scr 1605),
  (1605, op_aload 0 1606),
  (1606, op_iload 4 1608),
  (1608, op_push (.int 2) 1609),
  (1609, op_ii (fun x y => x + y) 1610),
  (1610, op_sld scr 1611),
  (1611, op_aload 0 1612),
  (1612, op_iload 4 1614),
  (1614, op_push (.int 3) 1615),
  (1615, op_ii (fun x y => x + y) 1616),
  (1616, op_sld scr 1617),
  (1617, op_aload 0 1618),
  (1618, op_iload 4 1620),
  (1620, op_push (.int 4) 1621),
  (1621, op_ii (fun x y => x + y) 1622),
  (1622, op_sld scr 1623),
  (1623, op_aload 0 1624),
  (1624, op_iload 4 1626),
  (1626, op_push (.int 5) 1627),
  (1627, op_ii (fun x y => x + y) 1628),
  (1628, op_sld scr 1629),
  (1629, op_callV rm_L_law [] 9 T_X6_move rm_X6_move 5 1629 1632),
  (1632, op_istore 6 1634),
  (1634, op_aload 2 1635),
  (1635, op_callV rm_L_law [] 9 T_X6_thrown rm_X6_thrown 0 1635 1638),
  (1638, op_iload 5 1640),
  (1640, op_icmp (fun x y => x = y) 1645 1643),
  (1643, op_push (.int 0) 1644),
  (1644, op_zreturn rm_L_law),
  (1645, op_iload 5 1647),
  (1647, op_if (fun x => ¬ x = 0) 1662 1650),
  (1650, op_aload 3 1651),
  (1651, op_push (.int 0) 1652),
  (1652, op_lald 1653),
  (1653, op_iload 6 1655),
  (1655, op_i (fun x => .long x.toInt64) 1656),
  (1656, op_lcmp 1657),
  (1657, op_if (fun x => x = 0) 1662 1660),
  (1660, op_push (.int 0) 1661),
  (1661, op_zreturn rm_L_law),
  (1662, op_goto 1665)]
set_option maxRecDepth 100000 in
set_option maxHeartbeats 4000000 in
theorem s_l20 (scr : Nat → Nat → (Nat → Int32) → Prop) : ∀ x ∈ k_l20 scr, ac_So M_L_law scr x.1 x.2 :=
  ac_cons (so_aload_n dL_law_1561 rfl rfl) <|
  ac_cons (so_aload_n dL_law_1562 rfl rfl) <|
  ac_cons (so_iload dL_law_1563 rfl) <|
  ac_cons (so_iconst dL_law_1565 (by decide +kernel) rfl) <|
  ac_cons (so_iadd dL_law_1566 rfl) <|
  ac_cons (so_sld dL_law_1567 rfl) <|
  ac_cons (so_aload_n dL_law_1568 rfl rfl) <|
  ac_cons (so_iload dL_law_1569 rfl) <|
  ac_cons (so_iconst dL_law_1571 (by decide +kernel) rfl) <|
  ac_cons (so_iadd dL_law_1572 rfl) <|
  ac_cons (so_sld dL_law_1573 rfl) <|
  ac_cons (so_aload_n dL_law_1574 rfl rfl) <|
  ac_cons (so_iload dL_law_1575 rfl) <|
  ac_cons (so_iconst dL_law_1577 (by decide +kernel) rfl) <|
  ac_cons (so_iadd dL_law_1578 rfl) <|
  ac_cons (so_sld dL_law_1579 rfl) <|
  ac_cons (so_aload_n dL_law_1580 rfl rfl) <|
  ac_cons (so_iload dL_law_1581 rfl) <|
  ac_cons (so_iconst dL_law_1583 (by decide +kernel) rfl) <|
  ac_cons (so_iadd dL_law_1584 rfl) <|
  ac_cons (so_sld dL_law_1585 rfl) <|
  ac_cons (so_aload_n dL_law_1586 rfl rfl) <|
  ac_cons (so_iload dL_law_1587 rfl) <|
  ac_cons (so_iconst dL_law_1589 (by decide +kernel) rfl) <|
  ac_cons (so_iadd dL_law_1590 rfl) <|
  ac_cons (so_sld dL_law_1591 rfl) <|
  ac_cons (so_aload_n dL_law_1592 rfl rfl) <|
  ac_cons (so_callSX (N := M_L_move) C_L_move rfl ⟨wd_620, wd_23, dy_L_move, ⟨by decide, by decide⟩, tb_L_law⟩ dL_law_1593 wd_618 wd_619 rfl) <|
  ac_cons (so_istore dL_law_1596 rfl) <|
  ac_cons (so_aload_n dL_law_1598 rfl rfl) <|
  ac_cons (so_aload_n dL_law_1599 rfl rfl) <|
  ac_cons (so_iload dL_law_1600 rfl) <|
  ac_cons (so_iconst dL_law_1602 (by decide +kernel) rfl) <|
  ac_cons (so_iadd dL_law_1603 rfl) <|
  ac_cons (so_sld dL_law_1604 rfl) <|
  ac_cons (so_aload_n dL_law_1605 rfl rfl) <|
  ac_cons (so_iload dL_law_1606 rfl) <|
  ac_cons (so_iconst dL_law_1608 (by decide +kernel) rfl) <|
  ac_cons (so_iadd dL_law_1609 rfl) <|
  ac_cons (so_sld dL_law_1610 rfl) <|
  ac_cons (so_aload_n dL_law_1611 rfl rfl) <|
  ac_cons (so_iload dL_law_1612 rfl) <|
  ac_cons (so_iconst dL_law_1614 (by decide +kernel) rfl) <|
  ac_cons (so_iadd dL_law_1615 rfl) <|
  ac_cons (so_sld dL_law_1616 rfl) <|
  ac_cons (so_aload_n dL_law_1617 rfl rfl) <|
  ac_cons (so_iload dL_law_1618 rfl) <|
  ac_cons (so_iconst dL_law_1620 (by decide +kernel) rfl) <|
  ac_cons (so_iadd dL_law_1621 rfl) <|
  ac_cons (so_sld dL_law_1622 rfl) <|
  ac_cons (so_aload_n dL_law_1623 rfl rfl) <|
  ac_cons (so_iload dL_law_1624 rfl) <|
  ac_cons (so_iconst dL_law_1626 (by decide +kernel) rfl) <|
  ac_cons (so_iadd dL_law_1627 rfl) <|
  ac_cons (so_sld dL_law_1628 rfl) <|
  ac_cons (so_callV (N := M_X6_move) (ci := 9) C_X6_move rfl ⟨wd_823, wd_25, dy_X6_move, ⟨by decide, by decide⟩, tb_L_law⟩ rfl dL_law_1629 wd_820 wd_821 wd_822 rfl) <|
  ac_cons (so_istore dL_law_1632 rfl) <|
  ac_cons (so_aload_n dL_law_1634 rfl rfl) <|
  ac_cons (so_callV (N := M_X6_thrown) (ci := 9) C_X6_thrown rfl ⟨wd_672, wd_25, dy_X6_thrown, ⟨by decide, by decide⟩, tb_L_law⟩ rfl dL_law_1635 wd_669 wd_670 wd_671 rfl) <|
  ac_cons (so_iload dL_law_1638 rfl) <|
  ac_cons (so_icmp_eq dL_law_1640 (by decide) rfl) <|
  ac_cons (so_iconst dL_law_1643 (by decide +kernel) rfl) <|
  ac_cons (so_zreturn rfl dL_law_1644) <|
  ac_cons (so_iload dL_law_1645 rfl) <|
  ac_cons (so_if_ne dL_law_1647 (by decide) rfl) <|
  ac_cons (so_aload_n dL_law_1650 rfl rfl) <|
  ac_cons (so_iconst dL_law_1651 (by decide +kernel) rfl) <|
  ac_cons (so_lald dL_law_1652 rfl) <|
  ac_cons (so_iload dL_law_1653 rfl) <|
  ac_cons (so_i2l dL_law_1655 rfl) <|
  ac_cons (so_lcmp dL_law_1656 rfl) <|
  ac_cons (so_if_eq dL_law_1657 (by decide) rfl) <|
  ac_cons (so_iconst dL_law_1660 (by decide +kernel) rfl) <|
  ac_cons (so_zreturn rfl dL_law_1661) <|
  ac_cons (so_goto dL_law_1662 (by decide)) <| ac_nil
def k_l21 (scr : Nat → Nat → (Nat → Int32) → Prop) : List (Nat × ac_op) := [(1665, op_iinc 4 6 1668),
  (1668, op_goto 23),
  (1671, op_push (.int 1) 1672),
  (1672, op_zreturn rm_L_law)]
set_option maxRecDepth 100000 in
set_option maxHeartbeats 4000000 in
theorem s_l21 (scr : Nat → Nat → (Nat → Int32) → Prop) : ∀ x ∈ k_l21 scr, ac_So M_L_law scr x.1 x.2 :=
  ac_cons (so_iinc dL_law_1665 (by decide +kernel) rfl) <|
  ac_cons (so_goto dL_law_1668 (by decide)) <|
  ac_cons (so_iconst dL_law_1671 (by decide +kernel) rfl) <|
  ac_cons (so_zreturn rfl dL_law_1672) <| ac_nil
def k_law (scr : Nat → Nat → (Nat → Int32) → Prop) : List (Nat × List (Nat × ac_op)) := [(135, k_l00 scr), (215, k_l01 scr), (295, k_l02 scr), (351, k_l03 scr), (431, k_l04 scr), (506, k_l05 scr), (574, k_l06 scr), (642, k_l07 scr), (698, k_l08 scr), (765, k_l09 scr), (876, k_l10 scr), (956, k_l11 scr), (1040, k_l12 scr), (1100, k_l13 scr), (1180, k_l14 scr), (1228, k_l15 scr), (1303, k_l16 scr), (1402, k_l17 scr), (1457, k_l18 scr), (1560, k_l19 scr), (1664, k_l20 scr), (3999, k_l21 scr)]
theorem s_law (scr : Nat → Nat → (Nat → Int32) → Prop) : ∀ y ∈ k_law scr, ∀ x ∈ y.2, ac_So M_L_law scr x.1 x.2 :=
  (List.forall_mem_cons.mpr ⟨s_l00 scr, (List.forall_mem_cons.mpr ⟨s_l01 scr, (List.forall_mem_cons.mpr ⟨s_l02 scr, (List.forall_mem_cons.mpr ⟨s_l03 scr, (List.forall_mem_cons.mpr ⟨s_l04 scr, (List.forall_mem_cons.mpr ⟨s_l05 scr, (List.forall_mem_cons.mpr ⟨s_l06 scr, (List.forall_mem_cons.mpr ⟨s_l07 scr, (List.forall_mem_cons.mpr ⟨s_l08 scr, (List.forall_mem_cons.mpr ⟨s_l09 scr, (List.forall_mem_cons.mpr ⟨s_l10 scr, (List.forall_mem_cons.mpr ⟨s_l11 scr, (List.forall_mem_cons.mpr ⟨s_l12 scr, (List.forall_mem_cons.mpr ⟨s_l13 scr, (List.forall_mem_cons.mpr ⟨s_l14 scr, (List.forall_mem_cons.mpr ⟨s_l15 scr, (List.forall_mem_cons.mpr ⟨s_l16 scr, (List.forall_mem_cons.mpr ⟨s_l17 scr, (List.forall_mem_cons.mpr ⟨s_l18 scr, (List.forall_mem_cons.mpr ⟨s_l19 scr, (List.forall_mem_cons.mpr ⟨s_l20 scr, (List.forall_mem_cons.mpr ⟨s_l21 scr, fun y h => (by cases h)⟩)⟩)⟩)⟩)⟩)⟩)⟩)⟩)⟩)⟩)⟩)⟩)⟩)⟩)⟩)⟩)⟩)⟩)⟩)⟩)⟩)⟩)
