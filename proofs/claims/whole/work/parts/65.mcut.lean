/-! the reference's cut -/
def ctF (σ σ' : ev_M) : Prop := (∀ k, ¬ k = 30 → (k < 40 ∨ 42 < k) → σ' k = σ k) ∧ ∀ j, ¬ j = 15 → σ' 30 j = σ 30 j
def ctQ (σ σ' : ev_M) (i : Nat) : Prop := ctF σ σ' ∧ σ' 30 15 = nI (bkN (σ 37) i) ∧ σ' 41 = bkB (σ 31) (σ 37) (σ 41) i ∧ σ' 42 = bkC (σ 31) (σ 37) (σ 42) i
def y_D_cut : MethodName := ⟨RD, "cut", "()V"⟩
def ws_D_cut : List Cond := .code y_D_cut prog_9_method_20_code 5 none :: evW
theorem d_D_cut_0 : decode prog_9_method_20_code 0 = .ok (.aload_n 0, 1) := by decide +kernel
theorem d_D_cut_1 : decode prog_9_method_20_code 1 = .ok (.iconst 0, 1) := by decide +kernel
theorem d_D_cut_2 : decode prog_9_method_20_code 2 = .ok (.putfield 121, 3) := by decide +kernel
theorem d_D_cut_5 : decode prog_9_method_20_code 5 = .ok (.iconst 0, 1) := by decide +kernel
theorem d_D_cut_6 : decode prog_9_method_20_code 6 = .ok (.istore_n 1, 1) := by decide +kernel
theorem d_D_cut_7 : decode prog_9_method_20_code 7 = .ok (.iload_n 1, 1) := by decide +kernel
theorem d_D_cut_8 : decode prog_9_method_20_code 8 = .ok (.bipush 96, 2) := by decide +kernel
theorem d_D_cut_10 : decode prog_9_method_20_code 10 = .ok (.if_icmp .ge 139, 3) := by decide +kernel
theorem d_D_cut_13 : decode prog_9_method_20_code 13 = .ok (.aload_n 0, 1) := by decide +kernel
theorem d_D_cut_14 : decode prog_9_method_20_code 14 = .ok (.getfield 29, 3) := by decide +kernel
theorem d_D_cut_17 : decode prog_9_method_20_code 17 = .ok (.iload_n 1, 1) := by decide +kernel
theorem d_D_cut_18 : decode prog_9_method_20_code 18 = .ok (.baload, 1) := by decide +kernel
theorem d_D_cut_19 : decode prog_9_method_20_code 19 = .ok (.ifCond .ne 6, 3) := by decide +kernel
theorem d_D_cut_22 : decode prog_9_method_20_code 22 = .ok (.goto 121, 3) := by decide +kernel
theorem d_D_cut_25 : decode prog_9_method_20_code 25 = .ok (.aload_n 0, 1) := by decide +kernel
theorem d_D_cut_26 : decode prog_9_method_20_code 26 = .ok (.getfield 38, 3) := by decide +kernel
theorem d_D_cut_29 : decode prog_9_method_20_code 29 = .ok (.aload_n 0, 1) := by decide +kernel
theorem d_D_cut_30 : decode prog_9_method_20_code 30 = .ok (.getfield 121, 3) := by decide +kernel
theorem d_D_cut_33 : decode prog_9_method_20_code 33 = .ok (.iload_n 1, 1) := by decide +kernel
theorem d_D_cut_34 : decode prog_9_method_20_code 34 = .ok (.iastore, 1) := by decide +kernel
theorem d_D_cut_35 : decode prog_9_method_20_code 35 = .ok (.iload_n 1, 1) := by decide +kernel
theorem d_D_cut_36 : decode prog_9_method_20_code 36 = .ok (.istore_n 2, 1) := by decide +kernel
theorem d_D_cut_37 : decode prog_9_method_20_code 37 = .ok (.iconst 0, 1) := by decide +kernel
theorem d_D_cut_38 : decode prog_9_method_20_code 38 = .ok (.istore_n 3, 1) := by decide +kernel
theorem d_D_cut_39 : decode prog_9_method_20_code 39 = .ok (.iconst 1, 1) := by decide +kernel
theorem d_D_cut_40 : decode prog_9_method_20_code 40 = .ok (.istore 4, 2) := by decide +kernel
theorem d_D_cut_42 : decode prog_9_method_20_code 42 = .ok (.iload 4, 2) := by decide +kernel
theorem d_D_cut_44 : decode prog_9_method_20_code 44 = .ok (.ifCond .eq 67, 3) := by decide +kernel
theorem d_D_cut_47 : decode prog_9_method_20_code 47 = .ok (.aload_n 0, 1) := by decide +kernel
theorem d_D_cut_48 : decode prog_9_method_20_code 48 = .ok (.getfield 7, 3) := by decide +kernel
theorem d_D_cut_51 : decode prog_9_method_20_code 51 = .ok (.iload_n 2, 1) := by decide +kernel
theorem d_D_cut_52 : decode prog_9_method_20_code 52 = .ok (.iaload, 1) := by decide +kernel
theorem d_D_cut_53 : decode prog_9_method_20_code 53 = .ok (.invokestatic 124, 3) := by decide +kernel
theorem d_D_cut_56 : decode prog_9_method_20_code 56 = .ok (.ifCond .ne 7, 3) := by decide +kernel
theorem d_D_cut_59 : decode prog_9_method_20_code 59 = .ok (.iconst 1, 1) := by decide +kernel
theorem d_D_cut_60 : decode prog_9_method_20_code 60 = .ok (.goto 4, 3) := by decide +kernel
theorem d_D_cut_63 : decode prog_9_method_20_code 63 = .ok (.iconst 0, 1) := by decide +kernel
theorem d_D_cut_64 : decode prog_9_method_20_code 64 = .ok (.istore 4, 2) := by decide +kernel
theorem d_D_cut_66 : decode prog_9_method_20_code 66 = .ok (.iload_n 2, 1) := by decide +kernel
theorem d_D_cut_67 : decode prog_9_method_20_code 67 = .ok (.aload_n 0, 1) := by decide +kernel
theorem d_D_cut_68 : decode prog_9_method_20_code 68 = .ok (.getfield 7, 3) := by decide +kernel
theorem d_D_cut_71 : decode prog_9_method_20_code 71 = .ok (.iload_n 2, 1) := by decide +kernel
theorem d_D_cut_72 : decode prog_9_method_20_code 72 = .ok (.iaload, 1) := by decide +kernel
theorem d_D_cut_73 : decode prog_9_method_20_code 73 = .ok (.invokestatic 97, 3) := by decide +kernel
theorem d_D_cut_76 : decode prog_9_method_20_code 76 = .ok (.iadd, 1) := by decide +kernel
theorem d_D_cut_77 : decode prog_9_method_20_code 77 = .ok (.istore_n 2, 1) := by decide +kernel
theorem d_D_cut_78 : decode prog_9_method_20_code 78 = .ok (.iinc 3 1, 3) := by decide +kernel
theorem d_D_cut_81 : decode prog_9_method_20_code 81 = .ok (.iload 4, 2) := by decide +kernel
theorem d_D_cut_83 : decode prog_9_method_20_code 83 = .ok (.ifCond .eq 22, 3) := by decide +kernel
theorem d_D_cut_86 : decode prog_9_method_20_code 86 = .ok (.iload_n 2, 1) := by decide +kernel
theorem d_D_cut_87 : decode prog_9_method_20_code 87 = .ok (.bipush 96, 2) := by decide +kernel
theorem d_D_cut_89 : decode prog_9_method_20_code 89 = .ok (.if_icmp .ge 16, 3) := by decide +kernel
theorem d_D_cut_92 : decode prog_9_method_20_code 92 = .ok (.aload_n 0, 1) := by decide +kernel
theorem d_D_cut_93 : decode prog_9_method_20_code 93 = .ok (.getfield 29, 3) := by decide +kernel
theorem d_D_cut_96 : decode prog_9_method_20_code 96 = .ok (.iload_n 2, 1) := by decide +kernel
theorem d_D_cut_97 : decode prog_9_method_20_code 97 = .ok (.baload, 1) := by decide +kernel
theorem d_D_cut_98 : decode prog_9_method_20_code 98 = .ok (.ifCond .ne 7, 3) := by decide +kernel
theorem d_D_cut_101 : decode prog_9_method_20_code 101 = .ok (.iconst 1, 1) := by decide +kernel
theorem d_D_cut_102 : decode prog_9_method_20_code 102 = .ok (.goto 4, 3) := by decide +kernel
theorem d_D_cut_105 : decode prog_9_method_20_code 105 = .ok (.iconst 0, 1) := by decide +kernel
theorem d_D_cut_106 : decode prog_9_method_20_code 106 = .ok (.istore 4, 2) := by decide +kernel
theorem d_D_cut_108 : decode prog_9_method_20_code 108 = .ok (.goto (-66), 3) := by decide +kernel
theorem d_D_cut_111 : decode prog_9_method_20_code 111 = .ok (.aload_n 0, 1) := by decide +kernel
theorem d_D_cut_112 : decode prog_9_method_20_code 112 = .ok (.getfield 41, 3) := by decide +kernel
theorem d_D_cut_115 : decode prog_9_method_20_code 115 = .ok (.aload_n 0, 1) := by decide +kernel
theorem d_D_cut_116 : decode prog_9_method_20_code 116 = .ok (.getfield 121, 3) := by decide +kernel
theorem d_D_cut_119 : decode prog_9_method_20_code 119 = .ok (.iload_n 2, 1) := by decide +kernel
theorem d_D_cut_120 : decode prog_9_method_20_code 120 = .ok (.iload_n 1, 1) := by decide +kernel
theorem d_D_cut_121 : decode prog_9_method_20_code 121 = .ok (.isub, 1) := by decide +kernel
theorem d_D_cut_122 : decode prog_9_method_20_code 122 = .ok (.iastore, 1) := by decide +kernel
theorem d_D_cut_123 : decode prog_9_method_20_code 123 = .ok (.aload_n 0, 1) := by decide +kernel
theorem d_D_cut_124 : decode prog_9_method_20_code 124 = .ok (.getfield 44, 3) := by decide +kernel
theorem d_D_cut_127 : decode prog_9_method_20_code 127 = .ok (.aload_n 0, 1) := by decide +kernel
theorem d_D_cut_128 : decode prog_9_method_20_code 128 = .ok (.getfield 121, 3) := by decide +kernel
theorem d_D_cut_131 : decode prog_9_method_20_code 131 = .ok (.iload_n 3, 1) := by decide +kernel
theorem d_D_cut_132 : decode prog_9_method_20_code 132 = .ok (.iastore, 1) := by decide +kernel
theorem d_D_cut_133 : decode prog_9_method_20_code 133 = .ok (.aload_n 0, 1) := by decide +kernel
theorem d_D_cut_134 : decode prog_9_method_20_code 134 = .ok (.dup, 1) := by decide +kernel
theorem d_D_cut_135 : decode prog_9_method_20_code 135 = .ok (.getfield 121, 3) := by decide +kernel
theorem d_D_cut_138 : decode prog_9_method_20_code 138 = .ok (.iconst 1, 1) := by decide +kernel
theorem d_D_cut_139 : decode prog_9_method_20_code 139 = .ok (.iadd, 1) := by decide +kernel
theorem d_D_cut_140 : decode prog_9_method_20_code 140 = .ok (.putfield 121, 3) := by decide +kernel
theorem d_D_cut_143 : decode prog_9_method_20_code 143 = .ok (.iinc 1 1, 3) := by decide +kernel
theorem d_D_cut_146 : decode prog_9_method_20_code 146 = .ok (.goto (-139), 3) := by decide +kernel
theorem d_D_cut_149 : decode prog_9_method_20_code 149 = .ok (.return_, 1) := by decide +kernel
def I_D_cut (P : Unit → ev_M → ev_L → Prop) : List (Nat × ev_T) := [(0, tt_al 0 1),
  (1, tt_k 0 2),
  (2, tt_pf evLY 7 15 5),
  (5, tt_k 0 6),
  (6, tt_is 1 7),
  (7, tt_il 1 8),
  (8, tt_k 96 10),
  (10, tt_icge 149 13),
  (13, tt_al 0 14),
  (14, tt_gf evLY 7 10 17),
  (17, tt_il 1 18),
  (18, tt_za evLY 19),
  (19, tt_ifne 25 22),
  (22, tt_go 143),
  (25, tt_al 0 26),
  (26, tt_gf evLY 7 16 29),
  (29, tt_al 0 30),
  (30, tt_gf evLY 7 15 33),
  (33, tt_il 1 34),
  (34, tt_ias evLY 35),
  (35, tt_il 1 36),
  (36, tt_is 2 37),
  (37, tt_k 0 38),
  (38, tt_is 3 39),
  (39, tt_k 1 40),
  (40, tt_is 4 42),
  (42, tt_il 4 44),
  (44, tt_ifeq 111 47),
  (47, tt_al 0 48),
  (48, tt_gf evLY 7 1 51),
  (51, tt_il 2 52),
  (52, tt_ia evLY 53),
  (53, tt_cS 1 ev_b pre_D_ends post_D_ends 56),
  (56, tt_ifne 63 59),
  (59, tt_k 1 60),
  (60, tt_go 64),
  (63, tt_k 0 64),
  (64, tt_is 4 66),
  (66, tt_il 2 67),
  (67, tt_al 0 68),
  (68, tt_gf evLY 7 1 71),
  (71, tt_il 2 72),
  (72, tt_ia evLY 73),
  (73, tt_cS 1 ev_i pre_D_sizeOf post_D_sizeOf 76),
  (76, tt_iadd 77),
  (77, tt_is 2 78),
  (78, tt_ii 3 1 81),
  (81, tt_il 4 83),
  (83, tt_ifeq 105 86),
  (86, tt_il 2 87),
  (87, tt_k 96 89),
  (89, tt_icge 105 92),
  (92, tt_al 0 93),
  (93, tt_gf evLY 7 10 96),
  (96, tt_il 2 97),
  (97, tt_za evLY 98),
  (98, tt_ifne 105 101),
  (101, tt_k 1 102),
  (102, tt_go 106),
  (105, tt_k 0 106),
  (106, tt_is 4 108),
  (108, tt_go 42),
  (111, tt_al 0 112),
  (112, tt_gf evLY 7 17 115),
  (115, tt_al 0 116),
  (116, tt_gf evLY 7 15 119),
  (119, tt_il 2 120),
  (120, tt_il 1 121),
  (121, tt_isub 122),
  (122, tt_ias evLY 123),
  (123, tt_al 0 124),
  (124, tt_gf evLY 7 18 127),
  (127, tt_al 0 128),
  (128, tt_gf evLY 7 15 131),
  (131, tt_il 3 132),
  (132, tt_ias evLY 133),
  (133, tt_al 0 134),
  (134, tt_dup 135),
  (135, tt_gf evLY 7 15 138),
  (138, tt_k 1 139),
  (139, tt_iadd 140),
  (140, tt_pf evLY 7 15 143),
  (143, tt_ii 1 1 146),
  (146, tt_go 7),
  (149, tt_rv P)]
abbrev rm_D_cut : Room := { frames := 2, cells := 0, slots := 0, locals := 64 }
set_option maxRecDepth 20000 in
theorem ok_D_cut (l : Launch) (J : ev_K) (P : Unit → ev_M → ev_L → Prop) (X : ev_X l rm_D_cut evLY evCl ws_D_cut prog_9_method_20_code 5 y_D_cut.cls J) (Z : ev_Z J prog_9_method_20_code .return_ ev_n P) : ev_oks J (I_D_cut P) :=
  ⟨qq_aln X 0 rfl d_D_cut_0,
  qq_ic X 0 (by decide) d_D_cut_1,
  qq_pf X 7 15 rfl (fun w h => List.mem_cons_of_mem _ (inE_D w h)) (by decide) tyD tyD_ok nmD rfl (by decide +kernel) (List.mem_cons_of_mem _ mw_769) d_D_cut_2,
  qq_ic X 0 (by decide) d_D_cut_5,
  qq_isn X 1 rfl (by decide) d_D_cut_6,
  qq_iln X 1 rfl d_D_cut_7,
  qq_bp X 96 (by decide) d_D_cut_8,
  qq_icge X 149 (by decide) d_D_cut_10,
  qq_aln X 0 rfl d_D_cut_13,
  qq_gf X 7 10 rfl (fun w h => List.mem_cons_of_mem _ (inE_D w h)) (by decide) (List.mem_cons_of_mem _ mw_764) d_D_cut_14,
  qq_iln X 1 rfl d_D_cut_17,
  qq_za X d_D_cut_18,
  qq_ifne X 25 (by decide) d_D_cut_19,
  qq_go X 143 (by decide) d_D_cut_22,
  qq_aln X 0 rfl d_D_cut_25,
  qq_gf X 7 16 rfl (fun w h => List.mem_cons_of_mem _ (inE_D w h)) (by decide) (List.mem_cons_of_mem _ mw_770) d_D_cut_26,
  qq_aln X 0 rfl d_D_cut_29,
  qq_gf X 7 15 rfl (fun w h => List.mem_cons_of_mem _ (inE_D w h)) (by decide) (List.mem_cons_of_mem _ mw_769) d_D_cut_30,
  qq_iln X 1 rfl d_D_cut_33,
  qq_ias X d_D_cut_34,
  qq_iln X 1 rfl d_D_cut_35,
  qq_isn X 2 rfl (by decide) d_D_cut_36,
  qq_ic X 0 (by decide) d_D_cut_37,
  qq_isn X 3 rfl (by decide) d_D_cut_38,
  qq_ic X 1 (by decide) d_D_cut_39,
  qq_is X 4 (by decide) d_D_cut_40,
  qq_il X 4 d_D_cut_42,
  qq_ifeq X 111 (by decide) d_D_cut_44,
  qq_aln X 0 rfl d_D_cut_47,
  qq_gf X 7 1 rfl (fun w h => List.mem_cons_of_mem _ (inE_D w h)) (by decide) (List.mem_cons_of_mem _ mw_755) d_D_cut_48,
  qq_iln X 2 rfl d_D_cut_51,
  qq_ia X d_D_cut_52,
  qq_cS X (c_D_ends l) (fun hts => va_cwS 1 hts (evGS (mw_916) (mw_917) (mw_8) (mw_918)) rfl rfl rfl (by decide +kernel) ⟨Nat.le_of_ble_eq_true rfl, Nat.le_of_ble_eq_true rfl⟩) d_D_cut_53,
  qq_ifne X 63 (by decide) d_D_cut_56,
  qq_ic X 1 (by decide) d_D_cut_59,
  qq_go X 64 (by decide) d_D_cut_60,
  qq_ic X 0 (by decide) d_D_cut_63,
  qq_is X 4 (by decide) d_D_cut_64,
  qq_iln X 2 rfl d_D_cut_66,
  qq_aln X 0 rfl d_D_cut_67,
  qq_gf X 7 1 rfl (fun w h => List.mem_cons_of_mem _ (inE_D w h)) (by decide) (List.mem_cons_of_mem _ mw_755) d_D_cut_68,
  qq_iln X 2 rfl d_D_cut_71,
  qq_ia X d_D_cut_72,
  qq_cS X (c_D_sizeOf l) (fun hts => va_cwS 1 hts (evGS (mw_881) (mw_882) (mw_8) (mw_883)) rfl rfl rfl (by decide +kernel) ⟨Nat.le_of_ble_eq_true rfl, Nat.le_of_ble_eq_true rfl⟩) d_D_cut_73,
  qq_iadd X d_D_cut_76,
  qq_isn X 2 rfl (by decide) d_D_cut_77,
  qq_ii X 3 1 (by decide) (by decide) d_D_cut_78,
  qq_il X 4 d_D_cut_81,
  qq_ifeq X 105 (by decide) d_D_cut_83,
  qq_iln X 2 rfl d_D_cut_86,
  qq_bp X 96 (by decide) d_D_cut_87,
  qq_icge X 105 (by decide) d_D_cut_89,
  qq_aln X 0 rfl d_D_cut_92,
  qq_gf X 7 10 rfl (fun w h => List.mem_cons_of_mem _ (inE_D w h)) (by decide) (List.mem_cons_of_mem _ mw_764) d_D_cut_93,
  qq_iln X 2 rfl d_D_cut_96,
  qq_za X d_D_cut_97,
  qq_ifne X 105 (by decide) d_D_cut_98,
  qq_ic X 1 (by decide) d_D_cut_101,
  qq_go X 106 (by decide) d_D_cut_102,
  qq_ic X 0 (by decide) d_D_cut_105,
  qq_is X 4 (by decide) d_D_cut_106,
  qq_go X 42 (by decide) d_D_cut_108,
  qq_aln X 0 rfl d_D_cut_111,
  qq_gf X 7 17 rfl (fun w h => List.mem_cons_of_mem _ (inE_D w h)) (by decide) (List.mem_cons_of_mem _ mw_771) d_D_cut_112,
  qq_aln X 0 rfl d_D_cut_115,
  qq_gf X 7 15 rfl (fun w h => List.mem_cons_of_mem _ (inE_D w h)) (by decide) (List.mem_cons_of_mem _ mw_769) d_D_cut_116,
  qq_iln X 2 rfl d_D_cut_119,
  qq_iln X 1 rfl d_D_cut_120,
  qq_isub X d_D_cut_121,
  qq_ias X d_D_cut_122,
  qq_aln X 0 rfl d_D_cut_123,
  qq_gf X 7 18 rfl (fun w h => List.mem_cons_of_mem _ (inE_D w h)) (by decide) (List.mem_cons_of_mem _ mw_772) d_D_cut_124,
  qq_aln X 0 rfl d_D_cut_127,
  qq_gf X 7 15 rfl (fun w h => List.mem_cons_of_mem _ (inE_D w h)) (by decide) (List.mem_cons_of_mem _ mw_769) d_D_cut_128,
  qq_iln X 3 rfl d_D_cut_131,
  qq_ias X d_D_cut_132,
  qq_aln X 0 rfl d_D_cut_133,
  qq_dup X d_D_cut_134,
  qq_gf X 7 15 rfl (fun w h => List.mem_cons_of_mem _ (inE_D w h)) (by decide) (List.mem_cons_of_mem _ mw_769) d_D_cut_135,
  qq_ic X 1 (by decide) d_D_cut_138,
  qq_iadd X d_D_cut_139,
  qq_pf X 7 15 rfl (fun w h => List.mem_cons_of_mem _ (inE_D w h)) (by decide) tyD tyD_ok nmD rfl (by decide +kernel) (List.mem_cons_of_mem _ mw_769) d_D_cut_140,
  qq_ii X 1 1 (by decide) (by decide) d_D_cut_143,
  qq_go X 7 (by decide) d_D_cut_146,
  qq_rv Z d_D_cut_149, trivial⟩
def pre_D_cut : List Value → ev_M → ev_L → Prop := fun as σ _ => ∃ S : Nat → Prop, as = [.ref 30] ∧ wkS (σ 31) S ∧ (∀ x, x < 96 → ¬ σ 37 x = 0 → S x) ∧ byF (σ 31)
def post_D_cut : List Value → ev_M → ev_L → Unit → ev_M → ev_L → Prop := fun _ σ τ _ σ' τ' => τ' = τ ∧ ctQ σ σ' 96 ∧ σ' 40 = bkH (σ 37) (σ 40) 96
set_option maxHeartbeats 4000000 in
set_option maxRecDepth 100000 in
theorem c_D_cut (l : Launch) : ev_C ev_n l y_D_cut ws_D_cut rm_D_cut evLY evCl pre_D_cut post_D_cut := by
  refine ev_methL (by decide) rfl ev_rop_v ?_ I_D_cut (ok_D_cut l) [7, 42] 60 ?_
  · rintro _ σ τ ⟨S, rfl, h⟩
    exact Nat.le_of_ble_eq_true rfl
  · rintro _ σ τ ⟨S, rfl, hS, hH, hby⟩
    refine ⟨fun μ pc lv st σ' τ' z => st = [] ∧ z = 0 ∧ τ = τ' ∧ ((pc = 0 ∧ μ = 90000 ∧ lv = [.ref 30, .null, .null, .null, .null] ∧ σ = σ') ∨ (pc = 7 ∧ ∃ (i : Nat) (v2 v3 v4 : Value), i ≤ 96 ∧ μ = 300 * (96 - i) + 200 ∧ lv = [.ref 30, .int (nI i), v2, v3, v4] ∧ ctQ σ σ' i ∧ σ' 40 = bkH (σ 37) (σ 40) i) ∨ (pc = 42 ∧ ∃ (i e c n : Nat), i < 96 ∧ S i ∧ ¬ σ 37 i = 0 ∧ e < 96 ∧ i ≤ e ∧ S e ∧ c + i ≤ e ∧ 96 ≤ n + e ∧ μ = 300 * (96 - i) + 150 - e ∧ lv = [.ref 30, .int (nI i), .int (nI e), .int (nI c), .int 1] ∧ wk (σ 31) (σ 37) n e c = wk (σ 31) (σ 37) 96 i 0 ∧ ctQ σ σ' i ∧ σ' 40 = upd (bkH (σ 37) (σ 40) i) (bkN (σ 37) i) (nI i)) ∨ (pc = 42 ∧ ∃ (i : Nat), i < 96 ∧ S i ∧ ¬ σ 37 i = 0 ∧ μ = 300 * (96 - i) + 1 ∧ lv = [.ref 30, .int (nI i), .int (nI (wk (σ 31) (σ 37) 96 i 0).1), .int (nI (wk (σ 31) (σ 37) 96 i 0).2), .int 0] ∧ ctQ σ σ' i ∧ σ' 40 = upd (bkH (σ 37) (σ 40) i) (bkN (σ 37) i) (nI i))), ⟨90000, rfl, rfl, rfl, Or.inl ⟨rfl, rfl, rfl, rfl⟩⟩, ?_⟩
    rintro μ pc lv st σ' τ' z ⟨rfl, rfl, rfl, ⟨rfl, rfl, rfl, rfl⟩ | ⟨rfl, i, v2, v3, v4, hi, rfl, rfl, hQ, h40⟩ | ⟨rfl, i, e, c, n, hi, hSi, hz, he, hie, hSe, hce, hn, rfl, rfl, hwk, hQ, h40⟩ | ⟨rfl, i, hi, hSi, hz, rfl, rfl, hQ, h40⟩⟩
    · refine ⟨300 * 96 + 200, by omega, rfl, rfl, rfl, Or.inr (Or.inl ⟨rfl, 0, _, _, _, by omega, rfl, rfl, ⟨⟨fun k a b => if_neg a, fun j a => if_neg a⟩, rfl, rfl, rfl⟩, rfl⟩)⟩
    · obtain ⟨hF, h15, h41, h42⟩ := hQ
      have e37 : σ' 37 = σ 37 := hF.1 37 (by decide) (by decide)
      have hbi := bkN_le (σ 37) i
      refine br_c (fun h => ?_) (fun h => ?_)
      · have : 96 ≤ i := (nI_leI (a := 96) (by omega) (by omega)).mp h
        have : i = 96 := by omega
        subst this
        exact ⟨rfl, ⟨hF, h15, h41, h42⟩, h40⟩
      · have hin : i < 96 := Nat.not_le.mp fun q => h ((nI_leI (a := 96) (by omega) (by omega)).mpr q)
        have hci : (nI i).toNatClampNeg = i := nI_clamp (by omega)
        have hcb : (nI (bkN (σ 37) i)).toNatClampNeg = bkN (σ 37) i := nI_clamp (by omega)
        refine ⟨vp_in_nI hin (by omega), ?_⟩
        rw [hci, e37]
        refine br_n (fun hz => ?_) (fun hz => ?_)
        · refine ⟨by rw [h15]; exact vp_in_nI (by omega) (by omega), ?_⟩
          rw [h15, hcb]
          refine ⟨300 * (96 - i) + 150 - i, by omega, rfl, rfl, rfl, Or.inr (Or.inr (Or.inl ⟨rfl, i, i, 0, 96, hin, hH i hin hz, hz, hin, Nat.le_refl _, hH i hin hz, by omega, by omega, rfl, rfl, rfl, ⟨⟨fun k a b => ?_, fun j a => hF.2 j a⟩, h15, h41, h42⟩, ?_⟩))⟩
          · have : ev_u σ' 40 (bkN (σ 37) i) (nI i) k = σ' k := if_neg (by omega)
            rw [this]; exact hF.1 k a b
          · show upd (σ' 40) _ _ = _
            rw [h40]
        · refine ⟨300 * (96 - (i + 1)) + 200, by omega, rfl, rfl, rfl, Or.inr (Or.inl ⟨rfl, i + 1, _, _, _, by omega, rfl, by rw [← nI_1], ⟨hF, ?_, ?_, ?_⟩, ?_⟩)⟩
          · rw [h15]; exact congrArg nI (if_pos hz).symm
          · rw [h41]; exact (if_pos hz).symm
          · rw [h42]; exact (if_pos hz).symm
          · rw [h40]; exact (if_pos hz).symm
    · -- one instruction more
      obtain ⟨hF, h15, h41, h42⟩ := id hQ
      have e37 : σ' 37 = σ 37 := hF.1 37 (by decide) (by decide)
      have e31 : σ' 31 = σ 31 := hF.1 31 (by decide) (by decide)
      obtain ⟨s1, s2, s3⟩ := hS e hSe
      have hl := lenN_c (σ 31) e
      have hle := okR_len s1 s2
      have hop := sp_at_by hby (nI e)
      have hends := (opF hop.1 hop.2 s2.2.2.1).2.2.2.2.1
      obtain ⟨v1, m1⟩ := m_at (σ := σ') (a := nI e) (by rw [nI_toInt (by omega)]; omega) (by rw [nI_toInt (by omega)]; omega)
      obtain ⟨n', rfl⟩ : ∃ n', n = n' + 1 := ⟨n - 1, by omega⟩
      have stop : (sp_ends (sp_kind (sp_at (σ 31) (nI e))) = true ∨ 96 ≤ e + lenN (σ 31) e ∨ ¬ σ 37 (e + lenN (σ 31) e) = 0) → (wk (σ 31) (σ 37) 96 i 0).1 = e + lenN (σ 31) e ∧ (wk (σ 31) (σ 37) 96 i 0).2 = c + 1 := by
        intro hc
        rw [← hwk]
        unfold wk
        rw [if_pos hc]
        exact ⟨rfl, rfl⟩
      have done : (sp_ends (sp_kind (sp_at (σ 31) (nI e))) = true ∨ 96 ≤ e + lenN (σ 31) e ∨ ¬ σ 37 (e + lenN (σ 31) e) = 0) → ([.ref 30, .int (nI i), .int (nI e + nI (lenN (σ 31) e)), .int (nI c + 1), .int 0] : List Value) = [.ref 30, .int (nI i), .int (nI (wk (σ 31) (σ 37) 96 i 0).1), .int (nI (wk (σ 31) (σ 37) 96 i 0).2), .int 0] := by
        intro hc
        obtain ⟨p1, p2⟩ := stop hc
        rw [p1, p2, nI_1, nI_add]
      refine br_f (by decide) ?_
      refine ⟨v1, ?_⟩
      rw [m1, e31]
      refine ⟨⟨_, rfl⟩, ?_⟩
      rintro _ σ' τ ⟨rfl, rfl, rfl⟩
      rw [hends]
      refine br_n (fun hen => ?_) (fun hen => ?_)
      · refine ⟨v1, ?_⟩
        rw [m1, e31]
        refine ⟨⟨_, rfl⟩, ?_⟩
        rintro _ σ' τ ⟨rfl, rfl, rfl⟩
        rw [len_sz hby s2.2.2.1]
        refine br_t rfl ?_
        exact ⟨300 * (96 - i) + 1, by omega, rfl, rfl, rfl, Or.inr (Or.inr (Or.inr ⟨rfl, i, hi, hSi, hz, rfl, done (Or.inl (bnz hen)), hQ, h40⟩))⟩
      · have hen' : ¬ sp_ends (sp_kind (sp_at (σ 31) (nI e))) = true := by rw [bz hen]; decide
        refine ⟨v1, ?_⟩
        rw [m1, e31]
        refine ⟨⟨_, rfl⟩, ?_⟩
        rintro _ σ' τ ⟨rfl, rfl, rfl⟩
        rw [len_sz hby s2.2.2.1]
        refine br_f (by decide) ?_
        refine br_c (fun hge => ?_) (fun hge => ?_)
        · have hge' : 96 ≤ e + lenN (σ 31) e := by
            rw [nI_add] at hge
            exact (nI_leI (a := 96) (by omega) (by omega)).mp hge
          exact ⟨300 * (96 - i) + 1, by omega, rfl, rfl, rfl, Or.inr (Or.inr (Or.inr ⟨rfl, i, hi, hSi, hz, rfl, done (Or.inr (Or.inl hge')), hQ, h40⟩))⟩
        · have hlt : e + lenN (σ 31) e < 96 := by
            rw [nI_add] at hge
            exact Nat.not_le.mp fun q => hge ((nI_leI (a := 96) (by omega) (by omega)).mpr q)
          have hce2 : (nI (e + lenN (σ 31) e)).toNatClampNeg = e + lenN (σ 31) e := nI_clamp (by omega)
          refine ⟨by rw [nI_add]; exact vp_in_nI hlt (by omega), ?_⟩
          rw [nI_add, hce2, e37]
          refine br_n (fun hh => ?_) (fun hh => ?_)
          · refine ⟨300 * (96 - i) + 1, by omega, rfl, rfl, rfl, Or.inr (Or.inr (Or.inr ⟨rfl, i, hi, hSi, hz, rfl, ?_, hQ, h40⟩))⟩
            have := done (Or.inr (Or.inr hh))
            rw [nI_add] at this
            exact this
          · refine ⟨300 * (96 - i) + 150 - (e + lenN (σ 31) e), by omega, rfl, rfl, rfl, Or.inr (Or.inr (Or.inl ⟨rfl, i, e + lenN (σ 31) e, c + 1, n', hi, hSi, hz, hlt, by omega, s3 hen', by omega, by omega, rfl, by rw [← nI_1], ?_, hQ, h40⟩))⟩
            rw [← hwk]
            show _ = ite _ _ _
            rw [if_neg]
            rintro (q | q | q)
            · exact hen' q
            · omega
            · exact q hh
    · -- behind the loop
      obtain ⟨hF, h15, h41, h42⟩ := id hQ
      have hbi := bkN_le (σ 37) i
      obtain ⟨r1, r2, r3, r4⟩ := wk_R (H := σ 37) hS 96 i 0 (by omega) hSi
      have hcb : (nI (bkN (σ 37) i)).toNatClampNeg = bkN (σ 37) i := nI_clamp (by omega)
      have hvb : vp_in (nI (bkN (σ 37) i)) 96 := vp_in_nI (by omega) (by omega)
      have eN : bkN (σ 37) (i + 1) = bkN (σ 37) i + 1 := if_neg hz
      have eH : bkH (σ 37) (σ 40) (i + 1) = upd (bkH (σ 37) (σ 40) i) (bkN (σ 37) i) (nI i) := if_neg hz
      have eB : bkB (σ 31) (σ 37) (σ 41) (i + 1) = upd (bkB (σ 31) (σ 37) (σ 41) i) (bkN (σ 37) i) (nI ((wk (σ 31) (σ 37) 96 i 0).1 - i)) := if_neg hz
      have eC : bkC (σ 31) (σ 37) (σ 42) (i + 1) = upd (bkC (σ 31) (σ 37) (σ 42) i) (bkN (σ 37) i) (nI (wk (σ 31) (σ 37) 96 i 0).2) := if_neg hz
      generalize (wk (σ 31) (σ 37) 96 i 0).1 = E at *
      generalize (wk (σ 31) (σ 37) 96 i 0).2 = C at *
      refine br_t rfl ?_
      refine ⟨by rw [h15]; exact hvb, by show vp_in (σ' 30 15) 96; rw [h15]; exact hvb, ?_⟩
      show ∃ μ', μ' < _ ∧ _
      refine ⟨300 * (96 - (i + 1)) + 200, by omega, rfl, rfl, rfl, Or.inr (Or.inl ⟨rfl, i + 1, _, _, _, by omega, rfl, by rw [← nI_1], ⟨⟨fun k a b => ?_, fun j a => ?_⟩, ?_, ?_, ?_⟩, ?_⟩)⟩
      · have k41 : ¬ k = 41 := by omega
        have k42 : ¬ k = 42 := by omega
        rw [← hF.1 k a b]
        simp [ev_u, ev_p, a, k41, k42]
      · rw [← hF.2 j a]
        exact if_neg a
      · show σ' 30 15 + 1 = _
        rw [h15, eN, nI_1]
      · show upd (σ' 41) (σ' 30 15).toNatClampNeg (nI E - nI i) = _
        rw [h15, hcb, eB, h41, pk_sub (by omega)]
      · show upd (σ' 42) (σ' 30 15).toNatClampNeg (nI C) = _
        rw [h15, hcb, eC, h42]
      · show σ' 40 = _
        rw [h40, eH]
