/-! Machine.perform, step -/
def pfC (σ : ev_M) (τ : ev_L) (q : Nat) : Int32 × mst := ms_perf (σ (q + 1)) (sp_trap (σ (q + 2))) (σ 24 2) (σ 24 1) (σ 24 3) (σ 24 4) (σ 24 0 + sp_len (σ 24 2)) (mvC σ τ)
def y_M_perform : MethodName := ⟨RX2, "perform", "(LBlockCounter$Program;)I"⟩
def ws_M_perform : List Cond := .code y_M_perform prog_4_method_14_code 3 (some .int) :: evW
theorem d_M_perform_0 : decode prog_4_method_14_code 0 = .ok (.aload_n 0, 1) := by decide +kernel
theorem d_M_perform_1 : decode prog_4_method_14_code 1 = .ok (.getfield 18, 3) := by decide +kernel
theorem d_M_perform_4 : decode prog_4_method_14_code 4 = .ok (.aload_n 0, 1) := by decide +kernel
theorem d_M_perform_5 : decode prog_4_method_14_code 5 = .ok (.getfield 12, 3) := by decide +kernel
theorem d_M_perform_8 : decode prog_4_method_14_code 8 = .ok (.invokevirtual 87, 3) := by decide +kernel
theorem d_M_perform_11 : decode prog_4_method_14_code 11 = .ok (.iaload, 1) := by decide +kernel
theorem d_M_perform_12 : decode prog_4_method_14_code 12 = .ok (.istore_n 2, 1) := by decide +kernel
theorem d_M_perform_13 : decode prog_4_method_14_code 13 = .ok (.aload_n 0, 1) := by decide +kernel
theorem d_M_perform_14 : decode prog_4_method_14_code 14 = .ok (.getfield 12, 3) := by decide +kernel
theorem d_M_perform_17 : decode prog_4_method_14_code 17 = .ok (.getfield 81, 3) := by decide +kernel
theorem d_M_perform_20 : decode prog_4_method_14_code 20 = .ok (.lookupswitch 233 #[(2, 92), (3, 98), (12, 213), (60, 103), (64, 122), (68, 141), (69, 146), (70, 154), (72, 206), (77, 180)], 92) := by decide +kernel
theorem d_M_perform_112 : decode prog_4_method_14_code 112 = .ok (.aload_n 0, 1) := by decide +kernel
theorem d_M_perform_113 : decode prog_4_method_14_code 113 = .ok (.aload_n 1, 1) := by decide +kernel
theorem d_M_perform_114 : decode prog_4_method_14_code 114 = .ok (.invokevirtual 91, 3) := by decide +kernel
theorem d_M_perform_117 : decode prog_4_method_14_code 117 = .ok (.ireturn, 1) := by decide +kernel
theorem d_M_perform_118 : decode prog_4_method_14_code 118 = .ok (.aload_n 0, 1) := by decide +kernel
theorem d_M_perform_119 : decode prog_4_method_14_code 119 = .ok (.invokevirtual 94, 3) := by decide +kernel
theorem d_M_perform_122 : decode prog_4_method_14_code 122 = .ok (.ireturn, 1) := by decide +kernel
theorem d_M_perform_123 : decode prog_4_method_14_code 123 = .ok (.iload_n 2, 1) := by decide +kernel
theorem d_M_perform_124 : decode prog_4_method_14_code 124 = .ok (.ifCond .ne 10, 3) := by decide +kernel
theorem d_M_perform_127 : decode prog_4_method_14_code 127 = .ok (.aload_n 0, 1) := by decide +kernel
theorem d_M_perform_128 : decode prog_4_method_14_code 128 = .ok (.invokevirtual 97, 3) := by decide +kernel
theorem d_M_perform_131 : decode prog_4_method_14_code 131 = .ok (.goto 10, 3) := by decide +kernel
theorem d_M_perform_134 : decode prog_4_method_14_code 134 = .ok (.aload_n 0, 1) := by decide +kernel
theorem d_M_perform_135 : decode prog_4_method_14_code 135 = .ok (.getfield 12, 3) := by decide +kernel
theorem d_M_perform_138 : decode prog_4_method_14_code 138 = .ok (.invokevirtual 100, 3) := by decide +kernel
theorem d_M_perform_141 : decode prog_4_method_14_code 141 = .ok (.ireturn, 1) := by decide +kernel
theorem d_M_perform_142 : decode prog_4_method_14_code 142 = .ok (.iload_n 2, 1) := by decide +kernel
theorem d_M_perform_143 : decode prog_4_method_14_code 143 = .ok (.ifCond .ge 10, 3) := by decide +kernel
theorem d_M_perform_146 : decode prog_4_method_14_code 146 = .ok (.aload_n 0, 1) := by decide +kernel
theorem d_M_perform_147 : decode prog_4_method_14_code 147 = .ok (.invokevirtual 97, 3) := by decide +kernel
theorem d_M_perform_150 : decode prog_4_method_14_code 150 = .ok (.goto 10, 3) := by decide +kernel
theorem d_M_perform_153 : decode prog_4_method_14_code 153 = .ok (.aload_n 0, 1) := by decide +kernel
theorem d_M_perform_154 : decode prog_4_method_14_code 154 = .ok (.getfield 12, 3) := by decide +kernel
theorem d_M_perform_157 : decode prog_4_method_14_code 157 = .ok (.invokevirtual 100, 3) := by decide +kernel
theorem d_M_perform_160 : decode prog_4_method_14_code 160 = .ok (.ireturn, 1) := by decide +kernel
theorem d_M_perform_161 : decode prog_4_method_14_code 161 = .ok (.aload_n 0, 1) := by decide +kernel
theorem d_M_perform_162 : decode prog_4_method_14_code 162 = .ok (.invokevirtual 97, 3) := by decide +kernel
theorem d_M_perform_165 : decode prog_4_method_14_code 165 = .ok (.ireturn, 1) := by decide +kernel
theorem d_M_perform_166 : decode prog_4_method_14_code 166 = .ok (.aload_n 0, 1) := by decide +kernel
theorem d_M_perform_167 : decode prog_4_method_14_code 167 = .ok (.getfield 12, 3) := by decide +kernel
theorem d_M_perform_170 : decode prog_4_method_14_code 170 = .ok (.getfield 103, 3) := by decide +kernel
theorem d_M_perform_173 : decode prog_4_method_14_code 173 = .ok (.ireturn, 1) := by decide +kernel
theorem d_M_perform_174 : decode prog_4_method_14_code 174 = .ok (.aload_n 0, 1) := by decide +kernel
theorem d_M_perform_175 : decode prog_4_method_14_code 175 = .ok (.aload_n 0, 1) := by decide +kernel
theorem d_M_perform_176 : decode prog_4_method_14_code 176 = .ok (.getfield 12, 3) := by decide +kernel
theorem d_M_perform_179 : decode prog_4_method_14_code 179 = .ok (.invokevirtual 100, 3) := by decide +kernel
theorem d_M_perform_182 : decode prog_4_method_14_code 182 = .ok (.invokevirtual 106, 3) := by decide +kernel
theorem d_M_perform_185 : decode prog_4_method_14_code 185 = .ok (.ifCond .eq 13, 3) := by decide +kernel
theorem d_M_perform_188 : decode prog_4_method_14_code 188 = .ok (.aload_n 0, 1) := by decide +kernel
theorem d_M_perform_189 : decode prog_4_method_14_code 189 = .ok (.getfield 12, 3) := by decide +kernel
theorem d_M_perform_192 : decode prog_4_method_14_code 192 = .ok (.getfield 103, 3) := by decide +kernel
theorem d_M_perform_195 : decode prog_4_method_14_code 195 = .ok (.goto 4, 3) := by decide +kernel
theorem d_M_perform_198 : decode prog_4_method_14_code 198 = .ok (.iconst (-1), 1) := by decide +kernel
theorem d_M_perform_199 : decode prog_4_method_14_code 199 = .ok (.ireturn, 1) := by decide +kernel
theorem d_M_perform_200 : decode prog_4_method_14_code 200 = .ok (.aload_n 0, 1) := by decide +kernel
theorem d_M_perform_201 : decode prog_4_method_14_code 201 = .ok (.aload_n 0, 1) := by decide +kernel
theorem d_M_perform_202 : decode prog_4_method_14_code 202 = .ok (.getfield 12, 3) := by decide +kernel
theorem d_M_perform_205 : decode prog_4_method_14_code 205 = .ok (.getfield 110, 3) := by decide +kernel
theorem d_M_perform_208 : decode prog_4_method_14_code 208 = .ok (.invokevirtual 106, 3) := by decide +kernel
theorem d_M_perform_211 : decode prog_4_method_14_code 211 = .ok (.ifCond .eq 13, 3) := by decide +kernel
theorem d_M_perform_214 : decode prog_4_method_14_code 214 = .ok (.aload_n 0, 1) := by decide +kernel
theorem d_M_perform_215 : decode prog_4_method_14_code 215 = .ok (.getfield 12, 3) := by decide +kernel
theorem d_M_perform_218 : decode prog_4_method_14_code 218 = .ok (.getfield 103, 3) := by decide +kernel
theorem d_M_perform_221 : decode prog_4_method_14_code 221 = .ok (.goto 4, 3) := by decide +kernel
theorem d_M_perform_224 : decode prog_4_method_14_code 224 = .ok (.iconst (-1), 1) := by decide +kernel
theorem d_M_perform_225 : decode prog_4_method_14_code 225 = .ok (.ireturn, 1) := by decide +kernel
theorem d_M_perform_226 : decode prog_4_method_14_code 226 = .ok (.aload_n 0, 1) := by decide +kernel
theorem d_M_perform_227 : decode prog_4_method_14_code 227 = .ok (.aload_n 1, 1) := by decide +kernel
theorem d_M_perform_228 : decode prog_4_method_14_code 228 = .ok (.iload_n 2, 1) := by decide +kernel
theorem d_M_perform_229 : decode prog_4_method_14_code 229 = .ok (.invokevirtual 113, 3) := by decide +kernel
theorem d_M_perform_232 : decode prog_4_method_14_code 232 = .ok (.ireturn, 1) := by decide +kernel
theorem d_M_perform_233 : decode prog_4_method_14_code 233 = .ok (.aload_n 0, 1) := by decide +kernel
theorem d_M_perform_234 : decode prog_4_method_14_code 234 = .ok (.iload_n 2, 1) := by decide +kernel
theorem d_M_perform_235 : decode prog_4_method_14_code 235 = .ok (.invokevirtual 117, 3) := by decide +kernel
theorem d_M_perform_238 : decode prog_4_method_14_code 238 = .ok (.ifCond .eq 13, 3) := by decide +kernel
theorem d_M_perform_241 : decode prog_4_method_14_code 241 = .ok (.aload_n 0, 1) := by decide +kernel
theorem d_M_perform_242 : decode prog_4_method_14_code 242 = .ok (.getfield 12, 3) := by decide +kernel
theorem d_M_perform_245 : decode prog_4_method_14_code 245 = .ok (.invokevirtual 100, 3) := by decide +kernel
theorem d_M_perform_248 : decode prog_4_method_14_code 248 = .ok (.goto 4, 3) := by decide +kernel
theorem d_M_perform_251 : decode prog_4_method_14_code 251 = .ok (.iconst (-1), 1) := by decide +kernel
theorem d_M_perform_252 : decode prog_4_method_14_code 252 = .ok (.ireturn, 1) := by decide +kernel
theorem d_M_perform_253 : decode prog_4_method_14_code 253 = .ok (.aload_n 0, 1) := by decide +kernel
theorem d_M_perform_254 : decode prog_4_method_14_code 254 = .ok (.invokevirtual 120, 3) := by decide +kernel
theorem d_M_perform_257 : decode prog_4_method_14_code 257 = .ok (.aload_n 0, 1) := by decide +kernel
theorem d_M_perform_258 : decode prog_4_method_14_code 258 = .ok (.getfield 12, 3) := by decide +kernel
theorem d_M_perform_261 : decode prog_4_method_14_code 261 = .ok (.invokevirtual 100, 3) := by decide +kernel
theorem d_M_perform_264 : decode prog_4_method_14_code 264 = .ok (.ireturn, 1) := by decide +kernel
def I_M_perform (P : Int32 → ev_M → ev_L → Prop) : List (Nat × ev_T) := [(0, tt_al 0 1),
  (1, tt_gf evLY 2 1 4),
  (4, tt_al 0 5),
  (5, tt_gf evLY 2 0 8),
  (8, tt_cV evLY 1 0 ev_i pre_I_registerNumber post_I_registerNumber 11),
  (11, tt_ia evLY 12),
  (12, tt_is 2 13),
  (13, tt_al 0 14),
  (14, tt_gf evLY 2 0 17),
  (17, tt_gf evLY 1 2 20),
  (20, tt_sw [(2, 112), (3, 118), (12, 233), (60, 123), (64, 142), (68, 161), (69, 166), (70, 174), (72, 226), (77, 200)] 253),
  (112, tt_al 0 113),
  (113, tt_al 1 114),
  (114, tt_cV evLY 2 1 ev_i pre_M_trap post_M_trap 117),
  (117, tt_ri P),
  (118, tt_al 0 119),
  (119, tt_cV evLY 2 0 ev_i pre_M_pop post_M_pop 122),
  (122, tt_ri P),
  (123, tt_il 2 124),
  (124, tt_ifne 134 127),
  (127, tt_al 0 128),
  (128, tt_cV evLY 2 0 ev_i pre_M_branch post_M_branch 131),
  (131, tt_go 141),
  (134, tt_al 0 135),
  (135, tt_gf evLY 2 0 138),
  (138, tt_cV evLY 1 0 ev_i pre_I_behind post_I_behind 141),
  (141, tt_ri P),
  (142, tt_il 2 143),
  (143, tt_ifge 153 146),
  (146, tt_al 0 147),
  (147, tt_cV evLY 2 0 ev_i pre_M_branch post_M_branch 150),
  (150, tt_go 160),
  (153, tt_al 0 154),
  (154, tt_gf evLY 2 0 157),
  (157, tt_cV evLY 1 0 ev_i pre_I_behind post_I_behind 160),
  (160, tt_ri P),
  (161, tt_al 0 162),
  (162, tt_cV evLY 2 0 ev_i pre_M_branch post_M_branch 165),
  (165, tt_ri P),
  (166, tt_al 0 167),
  (167, tt_gf evLY 2 0 170),
  (170, tt_gf evLY 1 3 173),
  (173, tt_ri P),
  (174, tt_al 0 175),
  (175, tt_al 0 176),
  (176, tt_gf evLY 2 0 179),
  (179, tt_cV evLY 1 0 ev_i pre_I_behind post_I_behind 182),
  (182, tt_cV evLY 2 1 ev_b pre_M_push post_M_push 185),
  (185, tt_ifeq 198 188),
  (188, tt_al 0 189),
  (189, tt_gf evLY 2 0 192),
  (192, tt_gf evLY 1 3 195),
  (195, tt_go 199),
  (198, tt_k (-1) 199),
  (199, tt_ri P),
  (200, tt_al 0 201),
  (201, tt_al 0 202),
  (202, tt_gf evLY 2 0 205),
  (205, tt_gf evLY 1 4 208),
  (208, tt_cV evLY 2 1 ev_b pre_M_push post_M_push 211),
  (211, tt_ifeq 224 214),
  (214, tt_al 0 215),
  (215, tt_gf evLY 2 0 218),
  (218, tt_gf evLY 1 3 221),
  (221, tt_go 225),
  (224, tt_k (-1) 225),
  (225, tt_ri P),
  (226, tt_al 0 227),
  (227, tt_al 1 228),
  (228, tt_il 2 229),
  (229, tt_cV evLY 2 2 ev_i pre_M_lookUp post_M_lookUp 232),
  (232, tt_ri P),
  (233, tt_al 0 234),
  (234, tt_il 2 235),
  (235, tt_cV evLY 2 1 ev_b pre_M_print post_M_print 238),
  (238, tt_ifeq 251 241),
  (241, tt_al 0 242),
  (242, tt_gf evLY 2 0 245),
  (245, tt_cV evLY 1 0 ev_i pre_I_behind post_I_behind 248),
  (248, tt_go 252),
  (251, tt_k (-1) 252),
  (252, tt_ri P),
  (253, tt_al 0 254),
  (254, tt_cV evLY 2 0 ev_n pre_M_calculate post_M_calculate 257),
  (257, tt_al 0 258),
  (258, tt_gf evLY 2 0 261),
  (261, tt_cV evLY 1 0 ev_i pre_I_behind post_I_behind 264),
  (264, tt_ri P)]
abbrev rm_M_perform : Room := { frames := 4, cells := 0, slots := 0, locals := 128 }
set_option maxRecDepth 20000 in
theorem ok_M_perform (l : Launch) (J : ev_K) (P : Int32 → ev_M → ev_L → Prop) (X : ev_X l rm_M_perform evLY evCl ws_M_perform prog_4_method_14_code 3 y_M_perform.cls J) (Z : ev_Z J prog_4_method_14_code .ireturn ev_i P) : ev_oks J (I_M_perform P) :=
  ⟨qq_aln X 0 rfl d_M_perform_0,
  qq_gf X 2 1 rfl (fun w h => List.mem_cons_of_mem _ (inE_M w h)) (by decide) (List.mem_cons_of_mem _ mw_162) d_M_perform_1,
  qq_aln X 0 rfl d_M_perform_4,
  qq_gf X 2 0 rfl (fun w h => List.mem_cons_of_mem _ (inE_M w h)) (by decide) (List.mem_cons_of_mem _ mw_161) d_M_perform_5,
  qq_cV X 1 rfl (c_I_registerNumber l) (fun hts => cwV 0 hts (evGV (mw_629) (mw_630) (mw_631) (mw_5) (mw_632)) rfl rfl rfl (by decide +kernel) ⟨Nat.le_of_ble_eq_true rfl, Nat.le_of_ble_eq_true rfl⟩) d_M_perform_8,
  qq_ia X d_M_perform_11,
  qq_isn X 2 rfl (by decide) d_M_perform_12,
  qq_aln X 0 rfl d_M_perform_13,
  qq_gf X 2 0 rfl (fun w h => List.mem_cons_of_mem _ (inE_M w h)) (by decide) (List.mem_cons_of_mem _ mw_161) d_M_perform_14,
  qq_gf X 1 2 rfl (fun w h => List.mem_cons_of_mem _ (inE_I w h)) (by decide) (List.mem_cons_of_mem _ mw_74) d_M_perform_17,
  qq_lsw X [(2, 112), (3, 118), (12, 233), (60, 123), (64, 142), (68, 161), (69, 166), (70, 174), (72, 226), (77, 200)] 253 (by decide) (by simp [ev_swOk]) d_M_perform_20,
  qq_aln X 0 rfl d_M_perform_112,
  qq_aln X 1 rfl d_M_perform_113,
  qq_cV X 2 rfl (c_M_trap l) (fun hts => cwV 1 hts (evGV (mw_633) (mw_635) (mp_18) (mw_7) (mw_636)) rfl rfl rfl (by decide +kernel) ⟨Nat.le_of_ble_eq_true rfl, Nat.le_of_ble_eq_true rfl⟩) d_M_perform_114,
  qq_ri Z d_M_perform_117,
  qq_aln X 0 rfl d_M_perform_118,
  qq_cV X 2 rfl (c_M_pop l) (fun hts => cwV 0 hts (evGV (mw_641) (mw_643) (mp_19) (mw_7) (mw_644)) rfl rfl rfl (by decide +kernel) ⟨Nat.le_of_ble_eq_true rfl, Nat.le_of_ble_eq_true rfl⟩) d_M_perform_119,
  qq_ri Z d_M_perform_122,
  qq_iln X 2 rfl d_M_perform_123,
  qq_ifne X 134 (by decide) d_M_perform_124,
  qq_aln X 0 rfl d_M_perform_127,
  qq_cV X 2 rfl (c_M_branch l) (fun hts => cwV 0 hts (evGV (mw_645) (mw_647) (mp_20) (mw_7) (mw_648)) rfl rfl rfl (by decide +kernel) ⟨Nat.le_of_ble_eq_true rfl, Nat.le_of_ble_eq_true rfl⟩) d_M_perform_128,
  qq_go X 141 (by decide) d_M_perform_131,
  qq_aln X 0 rfl d_M_perform_134,
  qq_gf X 2 0 rfl (fun w h => List.mem_cons_of_mem _ (inE_M w h)) (by decide) (List.mem_cons_of_mem _ mw_161) d_M_perform_135,
  qq_cV X 1 rfl (c_I_behind l) (fun hts => cwV 0 hts (evGV (mw_650) (mw_430) (mw_431) (mw_5) (mw_432)) rfl rfl rfl (by decide +kernel) ⟨Nat.le_of_ble_eq_true rfl, Nat.le_of_ble_eq_true rfl⟩) d_M_perform_138,
  qq_ri Z d_M_perform_141,
  qq_iln X 2 rfl d_M_perform_142,
  qq_ifge X 153 (by decide) d_M_perform_143,
  qq_aln X 0 rfl d_M_perform_146,
  qq_cV X 2 rfl (c_M_branch l) (fun hts => cwV 0 hts (evGV (mw_645) (mw_647) (mp_20) (mw_7) (mw_648)) rfl rfl rfl (by decide +kernel) ⟨Nat.le_of_ble_eq_true rfl, Nat.le_of_ble_eq_true rfl⟩) d_M_perform_147,
  qq_go X 160 (by decide) d_M_perform_150,
  qq_aln X 0 rfl d_M_perform_153,
  qq_gf X 2 0 rfl (fun w h => List.mem_cons_of_mem _ (inE_M w h)) (by decide) (List.mem_cons_of_mem _ mw_161) d_M_perform_154,
  qq_cV X 1 rfl (c_I_behind l) (fun hts => cwV 0 hts (evGV (mw_650) (mw_430) (mw_431) (mw_5) (mw_432)) rfl rfl rfl (by decide +kernel) ⟨Nat.le_of_ble_eq_true rfl, Nat.le_of_ble_eq_true rfl⟩) d_M_perform_157,
  qq_ri Z d_M_perform_160,
  qq_aln X 0 rfl d_M_perform_161,
  qq_cV X 2 rfl (c_M_branch l) (fun hts => cwV 0 hts (evGV (mw_645) (mw_647) (mp_20) (mw_7) (mw_648)) rfl rfl rfl (by decide +kernel) ⟨Nat.le_of_ble_eq_true rfl, Nat.le_of_ble_eq_true rfl⟩) d_M_perform_162,
  qq_ri Z d_M_perform_165,
  qq_aln X 0 rfl d_M_perform_166,
  qq_gf X 2 0 rfl (fun w h => List.mem_cons_of_mem _ (inE_M w h)) (by decide) (List.mem_cons_of_mem _ mw_161) d_M_perform_167,
  qq_gf X 1 3 rfl (fun w h => List.mem_cons_of_mem _ (inE_I w h)) (by decide) (List.mem_cons_of_mem _ mw_79) d_M_perform_170,
  qq_ri Z d_M_perform_173,
  qq_aln X 0 rfl d_M_perform_174,
  qq_aln X 0 rfl d_M_perform_175,
  qq_gf X 2 0 rfl (fun w h => List.mem_cons_of_mem _ (inE_M w h)) (by decide) (List.mem_cons_of_mem _ mw_161) d_M_perform_176,
  qq_cV X 1 rfl (c_I_behind l) (fun hts => cwV 0 hts (evGV (mw_650) (mw_430) (mw_431) (mw_5) (mw_432)) rfl rfl rfl (by decide +kernel) ⟨Nat.le_of_ble_eq_true rfl, Nat.le_of_ble_eq_true rfl⟩) d_M_perform_179,
  qq_cV X 2 rfl (c_M_push l) (fun hts => cwV 1 hts (evGV (mw_651) (mw_653) (mp_21) (mw_7) (mw_654)) rfl rfl rfl (by decide +kernel) ⟨Nat.le_of_ble_eq_true rfl, Nat.le_of_ble_eq_true rfl⟩) d_M_perform_182,
  qq_ifeq X 198 (by decide) d_M_perform_185,
  qq_aln X 0 rfl d_M_perform_188,
  qq_gf X 2 0 rfl (fun w h => List.mem_cons_of_mem _ (inE_M w h)) (by decide) (List.mem_cons_of_mem _ mw_161) d_M_perform_189,
  qq_gf X 1 3 rfl (fun w h => List.mem_cons_of_mem _ (inE_I w h)) (by decide) (List.mem_cons_of_mem _ mw_79) d_M_perform_192,
  qq_go X 199 (by decide) d_M_perform_195,
  qq_ic X (-1) (by decide) d_M_perform_198,
  qq_ri Z d_M_perform_199,
  qq_aln X 0 rfl d_M_perform_200,
  qq_aln X 0 rfl d_M_perform_201,
  qq_gf X 2 0 rfl (fun w h => List.mem_cons_of_mem _ (inE_M w h)) (by decide) (List.mem_cons_of_mem _ mw_161) d_M_perform_202,
  qq_gf X 1 4 rfl (fun w h => List.mem_cons_of_mem _ (inE_I w h)) (by decide) (List.mem_cons_of_mem _ mw_82) d_M_perform_205,
  qq_cV X 2 rfl (c_M_push l) (fun hts => cwV 1 hts (evGV (mw_651) (mw_653) (mp_21) (mw_7) (mw_654)) rfl rfl rfl (by decide +kernel) ⟨Nat.le_of_ble_eq_true rfl, Nat.le_of_ble_eq_true rfl⟩) d_M_perform_208,
  qq_ifeq X 224 (by decide) d_M_perform_211,
  qq_aln X 0 rfl d_M_perform_214,
  qq_gf X 2 0 rfl (fun w h => List.mem_cons_of_mem _ (inE_M w h)) (by decide) (List.mem_cons_of_mem _ mw_161) d_M_perform_215,
  qq_gf X 1 3 rfl (fun w h => List.mem_cons_of_mem _ (inE_I w h)) (by decide) (List.mem_cons_of_mem _ mw_79) d_M_perform_218,
  qq_go X 225 (by decide) d_M_perform_221,
  qq_ic X (-1) (by decide) d_M_perform_224,
  qq_ri Z d_M_perform_225,
  qq_aln X 0 rfl d_M_perform_226,
  qq_aln X 1 rfl d_M_perform_227,
  qq_iln X 2 rfl d_M_perform_228,
  qq_cV X 2 rfl (c_M_lookUp l) (fun hts => cwV 2 hts (evGV (mw_655) (mw_657) (mp_22) (mw_7) (mw_658)) rfl rfl rfl (by decide +kernel) ⟨Nat.le_of_ble_eq_true rfl, Nat.le_of_ble_eq_true rfl⟩) d_M_perform_229,
  qq_ri Z d_M_perform_232,
  qq_aln X 0 rfl d_M_perform_233,
  qq_iln X 2 rfl d_M_perform_234,
  qq_cV X 2 rfl (c_M_print l) (fun hts => cwV 1 hts (evGV (mw_663) (mw_665) (mp_23) (mw_7) (mw_666)) rfl rfl rfl (by decide +kernel) ⟨Nat.le_of_ble_eq_true rfl, Nat.le_of_ble_eq_true rfl⟩) d_M_perform_235,
  qq_ifeq X 251 (by decide) d_M_perform_238,
  qq_aln X 0 rfl d_M_perform_241,
  qq_gf X 2 0 rfl (fun w h => List.mem_cons_of_mem _ (inE_M w h)) (by decide) (List.mem_cons_of_mem _ mw_161) d_M_perform_242,
  qq_cV X 1 rfl (c_I_behind l) (fun hts => cwV 0 hts (evGV (mw_650) (mw_430) (mw_431) (mw_5) (mw_432)) rfl rfl rfl (by decide +kernel) ⟨Nat.le_of_ble_eq_true rfl, Nat.le_of_ble_eq_true rfl⟩) d_M_perform_245,
  qq_go X 252 (by decide) d_M_perform_248,
  qq_ic X (-1) (by decide) d_M_perform_251,
  qq_ri Z d_M_perform_252,
  qq_aln X 0 rfl d_M_perform_253,
  qq_cV X 2 rfl (c_M_calculate l) (fun hts => cwV 0 hts (evGV (mw_667) (mw_669) (mp_24) (mw_7) (mw_670)) rfl rfl rfl (by decide +kernel) ⟨Nat.le_of_ble_eq_true rfl, Nat.le_of_ble_eq_true rfl⟩) d_M_perform_254,
  qq_aln X 0 rfl d_M_perform_257,
  qq_gf X 2 0 rfl (fun w h => List.mem_cons_of_mem _ (inE_M w h)) (by decide) (List.mem_cons_of_mem _ mw_161) d_M_perform_258,
  qq_cV X 1 rfl (c_I_behind l) (fun hts => cwV 0 hts (evGV (mw_650) (mw_430) (mw_431) (mw_5) (mw_432)) rfl rfl rfl (by decide +kernel) ⟨Nat.le_of_ble_eq_true rfl, Nat.le_of_ble_eq_true rfl⟩) d_M_perform_261,
  qq_ri Z d_M_perform_264, trivial⟩
def pre_M_perform : List Value → ev_M → ev_L → Prop := fun as σ τ => ∃ q : Nat, as = [.ref 23, .ref q] ∧ (q = 1 ∨ q = 20) ∧ 0 ≤ σ 23 7 ∧ (σ 23 7).toInt ≤ 8 ∧ 0 ≤ σ 23 8
def post_M_perform : List Value → ev_M → ev_L → Int32 → ev_M → ev_L → Prop := fun as σ τ r σ' τ' => match as with
  | [_, .ref q] => r = (pfC σ τ q).1 ∧ mvC σ' τ' = (pfC σ τ q).2 ∧ frC σ σ' τ τ'
  | _ => False
set_option maxHeartbeats 4000000 in
set_option maxRecDepth 100000 in
theorem c_M_perform (l : Launch) : ev_C ev_i l y_M_perform ws_M_perform rm_M_perform evLY evCl pre_M_perform post_M_perform := by
  refine ev_meth0 (by decide) rfl ev_rop_i ?_ I_M_perform (ok_M_perform l) 60 ?_
  · rintro _ σ τ ⟨q, rfl, hq⟩
    exact Nat.le_of_ble_eq_true rfl
  · rintro _ σ τ ⟨q, rfl, hq, h0, h8, hs⟩
    rcases hq with rfl | rfl
    all_goals
      refine ⟨⟨_, rfl, by decide⟩, ?_⟩
      rintro _ σ τ ⟨rfl, rfl, rfl⟩
      have hr := sp_reg_in (σ 24 2) (σ 24 1)
      refine ⟨hr, br_c (fun h => ?_) (fun h2 => br_c (fun h => ?_) (fun h3 => br_c (fun h => ?_) (fun h12 => br_c (fun h => ?_) (fun h60 => br_c (fun h => ?_) (fun h64 => br_c (fun h => ?_) (fun h68 => br_c (fun h => ?_) (fun h69 => br_c (fun h => ?_) (fun h70 => br_c (fun h => ?_) (fun h72 => br_c (fun h => ?_) (fun h77 => ?_))))))))))⟩
      · refine ⟨⟨_, rfl, by decide⟩, ?_⟩
        rintro _ σ τ ⟨rfl, rfl, rfl⟩
        exact ⟨by unfold pfC ms_perf mvC; rw [h]; rfl, by unfold pfC ms_perf mvC; rw [h]; rfl, frC_rf σ τ⟩
      · refine ⟨⟨rfl, h8⟩, ?_⟩
        rintro _ _ τ ⟨rfl, ⟨hh, rfl, rfl⟩ | ⟨hh, rfl, rfl⟩⟩
        · exact ⟨by simp [pfC, ms_perf, mvC, h, hh], by simp [pfC, ms_perf, mvC, h, hh, ev_u, ev_p, upd], frC_u _ _ _ (by decide)⟩
        · exact ⟨by simp [pfC, ms_perf, mvC, h, hh], by simp [pfC, ms_perf, mvC, h, hh], frC_rf _ _⟩
      · refine ⟨⟨_, rfl, hs⟩, ?_⟩
        rintro _ _ τ ⟨rfl, ⟨rfl, hh, rfl⟩ | ⟨rfl, hh, rfl⟩⟩
        · refine br_c (fun g => absurd g (by decide)) (fun _ => ?_)
          refine ⟨⟨_, rfl, by decide⟩, ?_⟩
          rintro _ _ _ ⟨rfl, rfl, rfl⟩
          exact ⟨by simp [pfC, ms_perf, mvC, h, hh, ev_u, ev_p, upd], by simp [pfC, ms_perf, mvC, h, hh, ev_u, ev_p, upd], frC_tr (frC_u _ _ _ (by decide)) (frC_u _ _ _ (by decide))⟩
        · refine br_c (fun _ => ?_) (fun g => absurd rfl g)
          exact ⟨by simp [pfC, ms_perf, mvC, h, hh], by simp [pfC, ms_perf, mvC, h, hh], frC_rf _ _⟩
      · refine br_n (fun hh => ?_) (fun hh => ?_)
        · refine ⟨⟨_, rfl, by decide⟩, ?_⟩
          rintro _ σ τ ⟨rfl, rfl, rfl⟩
          simp only [h] at hh
          exact ⟨by simp [pfC, ms_perf, mvC, h, hh], by simp [pfC, ms_perf, mvC, h], frC_rf _ _⟩
        · refine ⟨rfl, ?_⟩
          rintro _ σ τ ⟨rfl, rfl, rfl⟩
          simp only [h] at hh
          exact ⟨by simp [pfC, ms_perf, mvC, h, hh], by simp [pfC, ms_perf, mvC, h], frC_rf _ _⟩
      · refine br_c (fun hh => ?_) (fun hh => ?_)
        · refine ⟨⟨_, rfl, by decide⟩, ?_⟩
          rintro _ σ τ ⟨rfl, rfl, rfl⟩
          simp only [h] at hh
          have hh := Int32.not_lt.mpr hh
          exact ⟨by simp [pfC, ms_perf, mvC, h, hh], by simp [pfC, ms_perf, mvC, h], frC_rf _ _⟩
        · refine ⟨rfl, ?_⟩
          rintro _ σ τ ⟨rfl, rfl, rfl⟩
          simp only [h] at hh
          have hh := Int32.not_le.mp hh
          exact ⟨by simp [pfC, ms_perf, mvC, h, hh], by simp [pfC, ms_perf, mvC, h], frC_rf _ _⟩
      · refine ⟨rfl, ?_⟩
        rintro _ σ τ ⟨rfl, rfl, rfl⟩
        exact ⟨by simp [pfC, ms_perf, mvC, h], by simp [pfC, ms_perf, mvC, h], frC_rf _ _⟩
      · exact ⟨by simp [pfC, ms_perf, mvC, h], by simp [pfC, ms_perf, mvC, h], frC_rf _ _⟩
      · refine ⟨⟨_, rfl, by decide⟩, ?_⟩
        rintro _ σ τ ⟨rfl, rfl, rfl⟩
        refine ⟨⟨_, rfl, h0⟩, ?_⟩
        rintro _ _ τ ⟨rfl, ⟨rfl, hh, rfl⟩ | ⟨rfl, hh, rfl⟩⟩
        · refine br_c (fun g => absurd g (by decide)) (fun _ => ?_)
          exact ⟨by simp [pfC, ms_perf, mvC, h, hh, ev_u, ev_p, upd], by simp [pfC, ms_perf, mvC, h, hh, ev_u, ev_p, upd], frC_tr (frC_u _ _ _ (by decide)) (frC_u _ _ _ (by decide))⟩
        · refine br_c (fun _ => ?_) (fun g => absurd rfl g)
          exact ⟨by simp [pfC, ms_perf, mvC, h, hh], by simp [pfC, ms_perf, mvC, h, hh], frC_rf _ _⟩
      · refine ⟨⟨_, _, rfl, by decide⟩, ?_⟩
        rintro _ σ τ ⟨rfl, rfl, rfl⟩
        exact ⟨by simp [pfC, ms_perf, mvC, h], by simp [pfC, ms_perf, mvC, h], frC_rf _ _⟩
      · refine ⟨⟨_, rfl, h0⟩, ?_⟩
        rintro _ _ τ ⟨rfl, ⟨rfl, hh, rfl⟩ | ⟨rfl, hh, rfl⟩⟩
        · refine br_c (fun g => absurd g (by decide)) (fun _ => ?_)
          exact ⟨by simp [pfC, ms_perf, mvC, h, hh, ev_u, ev_p, upd], by simp [pfC, ms_perf, mvC, h, hh, ev_u, ev_p, upd], frC_tr (frC_u _ _ _ (by decide)) (frC_u _ _ _ (by decide))⟩
        · refine br_c (fun _ => ?_) (fun g => absurd rfl g)
          exact ⟨by simp [pfC, ms_perf, mvC, h, hh], by simp [pfC, ms_perf, mvC, h, hh], frC_rf _ _⟩
      · refine ⟨rfl, ?_⟩
        rintro _ σ1 τ1 ⟨hv, h24, hf⟩
        refine ⟨⟨_, rfl, by decide⟩, ?_⟩
        rintro _ σ2 τ2 ⟨rfl, rfl, rfl⟩
        exact ⟨by simp [pfC, ms_perf, mvC, h2, h3, h12, h60, h64, h68, h69, h70, h72, h77, h24], by rw [hv]; simp [pfC, ms_perf, mvC, h2, h3, h12, h60, h64, h68, h69, h70, h72, h77], hf⟩
def y_M_step : MethodName := ⟨RX2, "step", "(LBlockCounter$Program;)I"⟩
def ws_M_step : List Cond := .code y_M_step prog_4_method_13_code 3 (some .int) :: evW
theorem d_M_step_0 : decode prog_4_method_13_code 0 = .ok (.aload_n 0, 1) := by decide +kernel
theorem d_M_step_1 : decode prog_4_method_13_code 1 = .ok (.getfield 12, 3) := by decide +kernel
theorem d_M_step_4 : decode prog_4_method_13_code 4 = .ok (.aload_n 1, 1) := by decide +kernel
theorem d_M_step_5 : decode prog_4_method_13_code 5 = .ok (.aload_n 0, 1) := by decide +kernel
theorem d_M_step_6 : decode prog_4_method_13_code 6 = .ok (.getfield 42, 3) := by decide +kernel
theorem d_M_step_9 : decode prog_4_method_13_code 9 = .ok (.sipush 256, 3) := by decide +kernel
theorem d_M_step_12 : decode prog_4_method_13_code 12 = .ok (.invokevirtual 77, 3) := by decide +kernel
theorem d_M_step_15 : decode prog_4_method_13_code 15 = .ok (.ifCond .ne 5, 3) := by decide +kernel
theorem d_M_step_18 : decode prog_4_method_13_code 18 = .ok (.iconst 2, 1) := by decide +kernel
theorem d_M_step_19 : decode prog_4_method_13_code 19 = .ok (.ireturn, 1) := by decide +kernel
theorem d_M_step_20 : decode prog_4_method_13_code 20 = .ok (.aload_n 0, 1) := by decide +kernel
theorem d_M_step_21 : decode prog_4_method_13_code 21 = .ok (.getfield 12, 3) := by decide +kernel
theorem d_M_step_24 : decode prog_4_method_13_code 24 = .ok (.getfield 81, 3) := by decide +kernel
theorem d_M_step_27 : decode prog_4_method_13_code 27 = .ok (.ifCond .ne 15, 3) := by decide +kernel
theorem d_M_step_30 : decode prog_4_method_13_code 30 = .ok (.aload_n 0, 1) := by decide +kernel
theorem d_M_step_31 : decode prog_4_method_13_code 31 = .ok (.dup, 1) := by decide +kernel
theorem d_M_step_32 : decode prog_4_method_13_code 32 = .ok (.getfield 45, 3) := by decide +kernel
theorem d_M_step_35 : decode prog_4_method_13_code 35 = .ok (.iconst 1, 1) := by decide +kernel
theorem d_M_step_36 : decode prog_4_method_13_code 36 = .ok (.iadd, 1) := by decide +kernel
theorem d_M_step_37 : decode prog_4_method_13_code 37 = .ok (.putfield 45, 3) := by decide +kernel
theorem d_M_step_40 : decode prog_4_method_13_code 40 = .ok (.iconst 1, 1) := by decide +kernel
theorem d_M_step_41 : decode prog_4_method_13_code 41 = .ok (.ireturn, 1) := by decide +kernel
theorem d_M_step_42 : decode prog_4_method_13_code 42 = .ok (.aload_n 0, 1) := by decide +kernel
theorem d_M_step_43 : decode prog_4_method_13_code 43 = .ok (.aload_n 1, 1) := by decide +kernel
theorem d_M_step_44 : decode prog_4_method_13_code 44 = .ok (.invokevirtual 84, 3) := by decide +kernel
theorem d_M_step_47 : decode prog_4_method_13_code 47 = .ok (.istore_n 2, 1) := by decide +kernel
theorem d_M_step_48 : decode prog_4_method_13_code 48 = .ok (.iload_n 2, 1) := by decide +kernel
theorem d_M_step_49 : decode prog_4_method_13_code 49 = .ok (.iconst (-1), 1) := by decide +kernel
theorem d_M_step_50 : decode prog_4_method_13_code 50 = .ok (.if_icmp .ne 5, 3) := by decide +kernel
theorem d_M_step_53 : decode prog_4_method_13_code 53 = .ok (.iconst 2, 1) := by decide +kernel
theorem d_M_step_54 : decode prog_4_method_13_code 54 = .ok (.ireturn, 1) := by decide +kernel
theorem d_M_step_55 : decode prog_4_method_13_code 55 = .ok (.aload_n 0, 1) := by decide +kernel
theorem d_M_step_56 : decode prog_4_method_13_code 56 = .ok (.iload_n 2, 1) := by decide +kernel
theorem d_M_step_57 : decode prog_4_method_13_code 57 = .ok (.putfield 42, 3) := by decide +kernel
theorem d_M_step_60 : decode prog_4_method_13_code 60 = .ok (.aload_n 0, 1) := by decide +kernel
theorem d_M_step_61 : decode prog_4_method_13_code 61 = .ok (.dup, 1) := by decide +kernel
theorem d_M_step_62 : decode prog_4_method_13_code 62 = .ok (.getfield 45, 3) := by decide +kernel
theorem d_M_step_65 : decode prog_4_method_13_code 65 = .ok (.iconst 1, 1) := by decide +kernel
theorem d_M_step_66 : decode prog_4_method_13_code 66 = .ok (.iadd, 1) := by decide +kernel
theorem d_M_step_67 : decode prog_4_method_13_code 67 = .ok (.putfield 45, 3) := by decide +kernel
theorem d_M_step_70 : decode prog_4_method_13_code 70 = .ok (.iconst 0, 1) := by decide +kernel
theorem d_M_step_71 : decode prog_4_method_13_code 71 = .ok (.ireturn, 1) := by decide +kernel
def I_M_step (P : Int32 → ev_M → ev_L → Prop) : List (Nat × ev_T) := [(0, tt_al 0 1),
  (1, tt_gf evLY 2 0 4),
  (4, tt_al 1 5),
  (5, tt_al 0 6),
  (6, tt_gf evLY 2 6 9),
  (9, tt_k 256 12),
  (12, tt_cV evLY 1 3 ev_b pre_I_read post_I_read 15),
  (15, tt_ifne 20 18),
  (18, tt_k 2 19),
  (19, tt_ri P),
  (20, tt_al 0 21),
  (21, tt_gf evLY 2 0 24),
  (24, tt_gf evLY 1 2 27),
  (27, tt_ifne 42 30),
  (30, tt_al 0 31),
  (31, tt_dup 32),
  (32, tt_gf evLY 2 9 35),
  (35, tt_k 1 36),
  (36, tt_iadd 37),
  (37, tt_pf evLY 2 9 40),
  (40, tt_k 1 41),
  (41, tt_ri P),
  (42, tt_al 0 43),
  (43, tt_al 1 44),
  (44, tt_cV evLY 2 1 ev_i pre_M_perform post_M_perform 47),
  (47, tt_is 2 48),
  (48, tt_il 2 49),
  (49, tt_k (-1) 50),
  (50, tt_icne 55 53),
  (53, tt_k 2 54),
  (54, tt_ri P),
  (55, tt_al 0 56),
  (56, tt_il 2 57),
  (57, tt_pf evLY 2 6 60),
  (60, tt_al 0 61),
  (61, tt_dup 62),
  (62, tt_gf evLY 2 9 65),
  (65, tt_k 1 66),
  (66, tt_iadd 67),
  (67, tt_pf evLY 2 9 70),
  (70, tt_k 0 71),
  (71, tt_ri P)]
abbrev rm_M_step : Room := { frames := 5, cells := 0, slots := 0, locals := 160 }
set_option maxRecDepth 20000 in
theorem ok_M_step (l : Launch) (J : ev_K) (P : Int32 → ev_M → ev_L → Prop) (X : ev_X l rm_M_step evLY evCl ws_M_step prog_4_method_13_code 3 y_M_step.cls J) (Z : ev_Z J prog_4_method_13_code .ireturn ev_i P) : ev_oks J (I_M_step P) :=
  ⟨qq_aln X 0 rfl d_M_step_0,
  qq_gf X 2 0 rfl (fun w h => List.mem_cons_of_mem _ (inE_M w h)) (by decide) (List.mem_cons_of_mem _ mw_161) d_M_step_1,
  qq_aln X 1 rfl d_M_step_4,
  qq_aln X 0 rfl d_M_step_5,
  qq_gf X 2 6 rfl (fun w h => List.mem_cons_of_mem _ (inE_M w h)) (by decide) (List.mem_cons_of_mem _ mw_167) d_M_step_6,
  qq_sp X 256 (by decide) d_M_step_9,
  qq_cV X 1 rfl (c_I_read l) (fun hts => cwV 3 hts (evGV (mw_624) (mw_419) (mw_420) (mw_5) (mw_421)) rfl rfl rfl (by decide +kernel) ⟨Nat.le_of_ble_eq_true rfl, Nat.le_of_ble_eq_true rfl⟩) d_M_step_12,
  qq_ifne X 20 (by decide) d_M_step_15,
  qq_ic X 2 (by decide) d_M_step_18,
  qq_ri Z d_M_step_19,
  qq_aln X 0 rfl d_M_step_20,
  qq_gf X 2 0 rfl (fun w h => List.mem_cons_of_mem _ (inE_M w h)) (by decide) (List.mem_cons_of_mem _ mw_161) d_M_step_21,
  qq_gf X 1 2 rfl (fun w h => List.mem_cons_of_mem _ (inE_I w h)) (by decide) (List.mem_cons_of_mem _ mw_74) d_M_step_24,
  qq_ifne X 42 (by decide) d_M_step_27,
  qq_aln X 0 rfl d_M_step_30,
  qq_dup X d_M_step_31,
  qq_gf X 2 9 rfl (fun w h => List.mem_cons_of_mem _ (inE_M w h)) (by decide) (List.mem_cons_of_mem _ mw_170) d_M_step_32,
  qq_ic X 1 (by decide) d_M_step_35,
  qq_iadd X d_M_step_36,
  qq_pf X 2 9 rfl (fun w h => List.mem_cons_of_mem _ (inE_M w h)) (by decide) tyX2 tyX2_ok nmX2 rfl (by decide +kernel) (List.mem_cons_of_mem _ mw_170) d_M_step_37,
  qq_ic X 1 (by decide) d_M_step_40,
  qq_ri Z d_M_step_41,
  qq_aln X 0 rfl d_M_step_42,
  qq_aln X 1 rfl d_M_step_43,
  qq_cV X 2 rfl (c_M_perform l) (fun hts => cwV 1 hts (evGV (mw_625) (mw_627) (mp_17) (mw_7) (mw_628)) rfl rfl rfl (by decide +kernel) ⟨Nat.le_of_ble_eq_true rfl, Nat.le_of_ble_eq_true rfl⟩) d_M_step_44,
  qq_isn X 2 rfl (by decide) d_M_step_47,
  qq_iln X 2 rfl d_M_step_48,
  qq_ic X (-1) (by decide) d_M_step_49,
  qq_icne X 55 (by decide) d_M_step_50,
  qq_ic X 2 (by decide) d_M_step_53,
  qq_ri Z d_M_step_54,
  qq_aln X 0 rfl d_M_step_55,
  qq_iln X 2 rfl d_M_step_56,
  qq_pf X 2 6 rfl (fun w h => List.mem_cons_of_mem _ (inE_M w h)) (by decide) tyX2 tyX2_ok nmX2 rfl (by decide +kernel) (List.mem_cons_of_mem _ mw_167) d_M_step_57,
  qq_aln X 0 rfl d_M_step_60,
  qq_dup X d_M_step_61,
  qq_gf X 2 9 rfl (fun w h => List.mem_cons_of_mem _ (inE_M w h)) (by decide) (List.mem_cons_of_mem _ mw_170) d_M_step_62,
  qq_ic X 1 (by decide) d_M_step_65,
  qq_iadd X d_M_step_66,
  qq_pf X 2 9 rfl (fun w h => List.mem_cons_of_mem _ (inE_M w h)) (by decide) tyX2 tyX2_ok nmX2 rfl (by decide +kernel) (List.mem_cons_of_mem _ mw_170) d_M_step_67,
  qq_ic X 0 (by decide) d_M_step_70,
  qq_ri Z d_M_step_71, trivial⟩
def pre_M_step : List Value → ev_M → ev_L → Prop := pre_M_perform
def post_M_step : List Value → ev_M → ev_L → Int32 → ev_M → ev_L → Prop := fun as σ τ r σ' τ' => match as with
  | [_, .ref q] => (r, mvC σ' τ') = ms_step (σ (q + 1)) (sp_trap (σ (q + 2))) (mvC σ τ) ∧ frC σ σ' τ τ'
  | _ => False
set_option maxHeartbeats 4000000 in
set_option maxRecDepth 100000 in
theorem c_M_step (l : Launch) : ev_C ev_i l y_M_step ws_M_step rm_M_step evLY evCl pre_M_step post_M_step := by
  refine ev_meth0 (by decide) rfl ev_rop_i ?_ I_M_step (ok_M_step l) 60 ?_
  · rintro _ σ τ ⟨q, rfl, hq⟩
    exact Nat.le_of_ble_eq_true rfl
  · rintro _ σ τ ⟨q, rfl, hq, h0, h8, hs⟩
    rcases hq with rfl | rfl
    all_goals
      refine ⟨⟨_, _, _, _, rfl, by decide⟩, ?_⟩
      rintro _ σ1 τ1 ⟨rfl, ⟨rfl, hok, rfl⟩ | ⟨rfl, hok, hσ⟩⟩
      · refine br_n (fun _ => ?_) (fun g => absurd g (by decide))
        refine br_n (fun hk => ?_) (fun hk => ?_)
        · refine ⟨⟨_, rfl, by decide, h0, h8, hs⟩, ?_⟩
          rintro _ σ2 τ2 ⟨rfl, hv, hf⟩
          refine br_n (fun hn => ?_) (fun hn => ?_)
          · refine ⟨?_, frC_tr (frC_tr ⟨fun k hk => ?_, fun _ _ => rfl⟩ hf) (frC_tr (frC_u _ _ _ (by decide)) (frC_u _ _ _ (by decide)))⟩
            · refine Eq.trans ?_ ((if_pos hok).trans ((if_neg hk).trans (if_neg hn))).symm
              refine Prod.ext rfl ?_
              show ms_go (mvC σ2 τ2) _ = _
              rw [hv]
              rfl
            · have h24 : ¬ k = 24 := by omega
              simp [sp_rd2, sp_rd1, ev_u, ev_p, h24]
          · refine ⟨?_, frC_tr ⟨fun k hk => ?_, fun _ _ => rfl⟩ hf⟩
            · refine Eq.trans ?_ ((if_pos hok).trans ((if_neg hk).trans (if_pos hn))).symm
              exact Prod.ext rfl hv
            · have h24 : ¬ k = 24 := by omega
              simp [sp_rd2, sp_rd1, ev_u, ev_p, h24]
        · refine ⟨?_, frC_tr ⟨fun k hk => ?_, fun _ _ => rfl⟩ (frC_u _ _ _ (by decide))⟩
          · exact ((if_pos hok).trans (if_pos hk)).symm
          · have h24 : ¬ k = 24 := by omega
            simp [sp_rd2, sp_rd1, ev_u, ev_p, h24]
      · refine br_n (fun g => absurd rfl g) (fun _ => ?_)
        rcases hσ with rfl | rfl
        · exact ⟨(if_neg hok).symm, frC_rf _ _⟩
        · refine ⟨(if_neg hok).symm, fun k hk => ?_, fun _ _ => rfl⟩
          have h24 : ¬ k = 24 := by omega
          simp [sp_rd1, ev_u, ev_p, h24]
