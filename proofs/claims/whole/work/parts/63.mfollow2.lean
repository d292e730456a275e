/-! the reference's follow -/
theorem opG {op : Int32} (h0 : 0 ≤ op.toInt) (h1 : op.toInt < 256) : (op = 2 ↔ sp_kind op = 2) ∧ (op = 76 ↔ sp_kind op = 76) ∧ (op = 77 ↔ sp_kind op = 77) ∧ (op = 69 ↔ sp_kind op = 69) ∧ (sd_sw op = true ↔ sp_kind op = 72) := by
  obtain ⟨j, hj, rfl⟩ := nI_of (x := op) (by rw [Int32.lt_iff_toInt_lt]; have : (0 : Int32).toInt = 0 := rfl; omega)
  rw [nI_toInt hj] at h1
  have k0 : ∀ n, n < 256 → (nI n = 2 ↔ sp_kind (nI n) = 2) := by decide +kernel
  have k1 : ∀ n, n < 256 → (nI n = 76 ↔ sp_kind (nI n) = 76) := by decide +kernel
  have k2 : ∀ n, n < 256 → (nI n = 77 ↔ sp_kind (nI n) = 77) := by decide +kernel
  have k3 : ∀ n, n < 256 → (nI n = 69 ↔ sp_kind (nI n) = 69) := by decide +kernel
  have k4 : ∀ n, n < 256 → (sd_sw (nI n) = true ↔ sp_kind (nI n) = 72) := by decide +kernel
  exact ⟨k0 j (by omega), k1 j (by omega), k2 j (by omega), k3 j (by omega), k4 j (by omega)⟩
theorem opG2 {op : Int32} (h0 : 0 ≤ op.toInt) (h1 : op.toInt < 256) : (sd_goes op = true ↔ ¬ sp_kind op = 0 ∧ ¬ sp_kind op = 3 ∧ ¬ sp_kind op = 68 ∧ ¬ sp_kind op = 69 ∧ ¬ sp_kind op = 72) ∧ (sp_kind op = 69 → sp_len (sp_kind op) = 2) := by
  obtain ⟨j, hj, rfl⟩ := nI_of (x := op) (by rw [Int32.lt_iff_toInt_lt]; have : (0 : Int32).toInt = 0 := rfl; omega)
  rw [nI_toInt hj] at h1
  have k0 : ∀ n, n < 256 → (sd_goes (nI n) = true ↔ ¬ sp_kind (nI n) = 0 ∧ ¬ sp_kind (nI n) = 3 ∧ ¬ sp_kind (nI n) = 68 ∧ ¬ sp_kind (nI n) = 69 ∧ ¬ sp_kind (nI n) = 72) := by decide +kernel
  have k1 : ∀ n, n < 256 → (sp_kind (nI n) = 69 → sp_len (sp_kind (nI n)) = 2) := by decide +kernel
  exact ⟨k0 j (by omega), k1 j (by omega)⟩
theorem bt_f {b : Bool} {P : Prop} (h : b = true ↔ P) (n : ¬ P) : b = false := by
  cases b with
  | true => exact absurd (h.mp rfl) n
  | false => rfl
def y_D_follow : MethodName := ⟨RD, "follow", "(I)V"⟩
def ws_D_follow : List Cond := .code y_D_follow prog_9_method_17_code 4 none :: evW
theorem d_D_follow_0 : decode prog_9_method_17_code 0 = .ok (.aload_n 0, 1) := by decide +kernel
theorem d_D_follow_1 : decode prog_9_method_17_code 1 = .ok (.getfield 7, 3) := by decide +kernel
theorem d_D_follow_4 : decode prog_9_method_17_code 4 = .ok (.iload_n 1, 1) := by decide +kernel
theorem d_D_follow_5 : decode prog_9_method_17_code 5 = .ok (.iaload, 1) := by decide +kernel
theorem d_D_follow_6 : decode prog_9_method_17_code 6 = .ok (.istore_n 2, 1) := by decide +kernel
theorem d_D_follow_7 : decode prog_9_method_17_code 7 = .ok (.iload_n 2, 1) := by decide +kernel
theorem d_D_follow_8 : decode prog_9_method_17_code 8 = .ok (.invokestatic 97, 3) := by decide +kernel
theorem d_D_follow_11 : decode prog_9_method_17_code 11 = .ok (.istore_n 3, 1) := by decide +kernel
theorem d_D_follow_12 : decode prog_9_method_17_code 12 = .ok (.iload_n 3, 1) := by decide +kernel
theorem d_D_follow_13 : decode prog_9_method_17_code 13 = .ok (.ifCond .eq 28, 3) := by decide +kernel
theorem d_D_follow_16 : decode prog_9_method_17_code 16 = .ok (.iload_n 2, 1) := by decide +kernel
theorem d_D_follow_17 : decode prog_9_method_17_code 17 = .ok (.iconst 2, 1) := by decide +kernel
theorem d_D_follow_18 : decode prog_9_method_17_code 18 = .ok (.if_icmp .eq 23, 3) := by decide +kernel
theorem d_D_follow_21 : decode prog_9_method_17_code 21 = .ok (.iload_n 2, 1) := by decide +kernel
theorem d_D_follow_22 : decode prog_9_method_17_code 22 = .ok (.bipush 76, 2) := by decide +kernel
theorem d_D_follow_24 : decode prog_9_method_17_code 24 = .ok (.if_icmp .eq 17, 3) := by decide +kernel
theorem d_D_follow_27 : decode prog_9_method_17_code 27 = .ok (.iload_n 2, 1) := by decide +kernel
theorem d_D_follow_28 : decode prog_9_method_17_code 28 = .ok (.bipush 77, 2) := by decide +kernel
theorem d_D_follow_30 : decode prog_9_method_17_code 30 = .ok (.if_icmp .eq 11, 3) := by decide +kernel
theorem d_D_follow_33 : decode prog_9_method_17_code 33 = .ok (.iload_n 1, 1) := by decide +kernel
theorem d_D_follow_34 : decode prog_9_method_17_code 34 = .ok (.iload_n 3, 1) := by decide +kernel
theorem d_D_follow_35 : decode prog_9_method_17_code 35 = .ok (.iadd, 1) := by decide +kernel
theorem d_D_follow_36 : decode prog_9_method_17_code 36 = .ok (.bipush 96, 2) := by decide +kernel
theorem d_D_follow_38 : decode prog_9_method_17_code 38 = .ok (.if_icmp .le 9, 3) := by decide +kernel
theorem d_D_follow_41 : decode prog_9_method_17_code 41 = .ok (.aload_n 0, 1) := by decide +kernel
theorem d_D_follow_42 : decode prog_9_method_17_code 42 = .ok (.iconst 1, 1) := by decide +kernel
theorem d_D_follow_43 : decode prog_9_method_17_code 43 = .ok (.putfield 91, 3) := by decide +kernel
theorem d_D_follow_46 : decode prog_9_method_17_code 46 = .ok (.return_, 1) := by decide +kernel
theorem d_D_follow_47 : decode prog_9_method_17_code 47 = .ok (.iload_n 2, 1) := by decide +kernel
theorem d_D_follow_48 : decode prog_9_method_17_code 48 = .ok (.invokestatic 84, 3) := by decide +kernel
theorem d_D_follow_51 : decode prog_9_method_17_code 51 = .ok (.ifCond .ne 15, 3) := by decide +kernel
theorem d_D_follow_54 : decode prog_9_method_17_code 54 = .ok (.iload_n 2, 1) := by decide +kernel
theorem d_D_follow_55 : decode prog_9_method_17_code 55 = .ok (.bipush 69, 2) := by decide +kernel
theorem d_D_follow_57 : decode prog_9_method_17_code 57 = .ok (.if_icmp .eq 9, 3) := by decide +kernel
theorem d_D_follow_60 : decode prog_9_method_17_code 60 = .ok (.iload_n 2, 1) := by decide +kernel
theorem d_D_follow_61 : decode prog_9_method_17_code 61 = .ok (.bipush 70, 2) := by decide +kernel
theorem d_D_follow_63 : decode prog_9_method_17_code 63 = .ok (.if_icmp .ne 13, 3) := by decide +kernel
theorem d_D_follow_66 : decode prog_9_method_17_code 66 = .ok (.aload_n 0, 1) := by decide +kernel
theorem d_D_follow_67 : decode prog_9_method_17_code 67 = .ok (.aload_n 0, 1) := by decide +kernel
theorem d_D_follow_68 : decode prog_9_method_17_code 68 = .ok (.iload_n 1, 1) := by decide +kernel
theorem d_D_follow_69 : decode prog_9_method_17_code 69 = .ok (.invokevirtual 100, 3) := by decide +kernel
theorem d_D_follow_72 : decode prog_9_method_17_code 72 = .ok (.iconst 1, 1) := by decide +kernel
theorem d_D_follow_73 : decode prog_9_method_17_code 73 = .ok (.invokevirtual 103, 3) := by decide +kernel
theorem d_D_follow_76 : decode prog_9_method_17_code 76 = .ok (.iload_n 2, 1) := by decide +kernel
theorem d_D_follow_77 : decode prog_9_method_17_code 77 = .ok (.invokestatic 88, 3) := by decide +kernel
theorem d_D_follow_80 : decode prog_9_method_17_code 80 = .ok (.ifCond .eq 23, 3) := by decide +kernel
theorem d_D_follow_83 : decode prog_9_method_17_code 83 = .ok (.aload_n 0, 1) := by decide +kernel
theorem d_D_follow_84 : decode prog_9_method_17_code 84 = .ok (.aload_n 0, 1) := by decide +kernel
theorem d_D_follow_85 : decode prog_9_method_17_code 85 = .ok (.getfield 7, 3) := by decide +kernel
theorem d_D_follow_88 : decode prog_9_method_17_code 88 = .ok (.iload_n 1, 1) := by decide +kernel
theorem d_D_follow_89 : decode prog_9_method_17_code 89 = .ok (.iconst 1, 1) := by decide +kernel
theorem d_D_follow_90 : decode prog_9_method_17_code 90 = .ok (.iadd, 1) := by decide +kernel
theorem d_D_follow_91 : decode prog_9_method_17_code 91 = .ok (.iaload, 1) := by decide +kernel
theorem d_D_follow_92 : decode prog_9_method_17_code 92 = .ok (.aload_n 0, 1) := by decide +kernel
theorem d_D_follow_93 : decode prog_9_method_17_code 93 = .ok (.getfield 7, 3) := by decide +kernel
theorem d_D_follow_96 : decode prog_9_method_17_code 96 = .ok (.iload_n 1, 1) := by decide +kernel
theorem d_D_follow_97 : decode prog_9_method_17_code 97 = .ok (.iconst 2, 1) := by decide +kernel
theorem d_D_follow_98 : decode prog_9_method_17_code 98 = .ok (.iadd, 1) := by decide +kernel
theorem d_D_follow_99 : decode prog_9_method_17_code 99 = .ok (.iaload, 1) := by decide +kernel
theorem d_D_follow_100 : decode prog_9_method_17_code 100 = .ok (.invokevirtual 107, 3) := by decide +kernel
theorem d_D_follow_103 : decode prog_9_method_17_code 103 = .ok (.iload_n 2, 1) := by decide +kernel
theorem d_D_follow_104 : decode prog_9_method_17_code 104 = .ok (.invokestatic 111, 3) := by decide +kernel
theorem d_D_follow_107 : decode prog_9_method_17_code 107 = .ok (.ifCond .eq 28, 3) := by decide +kernel
theorem d_D_follow_110 : decode prog_9_method_17_code 110 = .ok (.aload_n 0, 1) := by decide +kernel
theorem d_D_follow_111 : decode prog_9_method_17_code 111 = .ok (.iload_n 1, 1) := by decide +kernel
theorem d_D_follow_112 : decode prog_9_method_17_code 112 = .ok (.iload_n 3, 1) := by decide +kernel
theorem d_D_follow_113 : decode prog_9_method_17_code 113 = .ok (.iadd, 1) := by decide +kernel
theorem d_D_follow_114 : decode prog_9_method_17_code 114 = .ok (.iload_n 2, 1) := by decide +kernel
theorem d_D_follow_115 : decode prog_9_method_17_code 115 = .ok (.invokestatic 114, 3) := by decide +kernel
theorem d_D_follow_118 : decode prog_9_method_17_code 118 = .ok (.ifCond .ne 9, 3) := by decide +kernel
theorem d_D_follow_121 : decode prog_9_method_17_code 121 = .ok (.iload_n 2, 1) := by decide +kernel
theorem d_D_follow_122 : decode prog_9_method_17_code 122 = .ok (.bipush 70, 2) := by decide +kernel
theorem d_D_follow_124 : decode prog_9_method_17_code 124 = .ok (.if_icmp .ne 7, 3) := by decide +kernel
theorem d_D_follow_127 : decode prog_9_method_17_code 127 = .ok (.iconst 1, 1) := by decide +kernel
theorem d_D_follow_128 : decode prog_9_method_17_code 128 = .ok (.goto 4, 3) := by decide +kernel
theorem d_D_follow_131 : decode prog_9_method_17_code 131 = .ok (.iconst 0, 1) := by decide +kernel
theorem d_D_follow_132 : decode prog_9_method_17_code 132 = .ok (.invokevirtual 103, 3) := by decide +kernel
theorem d_D_follow_135 : decode prog_9_method_17_code 135 = .ok (.return_, 1) := by decide +kernel
def I_D_follow (P : Unit → ev_M → ev_L → Prop) : List (Nat × ev_T) := [(0, tt_al 0 1),
  (1, tt_gf evLY 7 1 4),
  (4, tt_il 1 5),
  (5, tt_ia evLY 6),
  (6, tt_is 2 7),
  (7, tt_il 2 8),
  (8, tt_cS 1 ev_i pre_D_sizeOf post_D_sizeOf 11),
  (11, tt_is 3 12),
  (12, tt_il 3 13),
  (13, tt_ifeq 41 16),
  (16, tt_il 2 17),
  (17, tt_k 2 18),
  (18, tt_iceq 41 21),
  (21, tt_il 2 22),
  (22, tt_k 76 24),
  (24, tt_iceq 41 27),
  (27, tt_il 2 28),
  (28, tt_k 77 30),
  (30, tt_iceq 41 33),
  (33, tt_il 1 34),
  (34, tt_il 3 35),
  (35, tt_iadd 36),
  (36, tt_k 96 38),
  (38, tt_icle 47 41),
  (41, tt_al 0 42),
  (42, tt_k 1 43),
  (43, tt_pz evLY 7 13 46),
  (46, tt_rv P),
  (47, tt_il 2 48),
  (48, tt_cS 1 ev_b pre_D_branches post_D_branches 51),
  (51, tt_ifne 66 54),
  (54, tt_il 2 55),
  (55, tt_k 69 57),
  (57, tt_iceq 66 60),
  (60, tt_il 2 61),
  (61, tt_k 70 63),
  (63, tt_icne 76 66),
  (66, tt_al 0 67),
  (67, tt_al 0 68),
  (68, tt_il 1 69),
  (69, tt_cV evLY 7 1 ev_i pre_D_target post_D_target 72),
  (72, tt_k 1 73),
  (73, tt_cV evLY 7 2 ev_n pre_D_come post_D_come 76),
  (76, tt_il 2 77),
  (77, tt_cS 1 ev_b pre_D_isSwitch post_D_isSwitch 80),
  (80, tt_ifeq 103 83),
  (83, tt_al 0 84),
  (84, tt_al 0 85),
  (85, tt_gf evLY 7 1 88),
  (88, tt_il 1 89),
  (89, tt_k 1 90),
  (90, tt_iadd 91),
  (91, tt_ia evLY 92),
  (92, tt_al 0 93),
  (93, tt_gf evLY 7 1 96),
  (96, tt_il 1 97),
  (97, tt_k 2 98),
  (98, tt_iadd 99),
  (99, tt_ia evLY 100),
  (100, tt_cV evLY 7 2 ev_n pre_D_followTable post_D_followTable 103),
  (103, tt_il 2 104),
  (104, tt_cS 1 ev_b pre_D_goesOn post_D_goesOn 107),
  (107, tt_ifeq 135 110),
  (110, tt_al 0 111),
  (111, tt_il 1 112),
  (112, tt_il 3 113),
  (113, tt_iadd 114),
  (114, tt_il 2 115),
  (115, tt_cS 1 ev_b pre_D_isConditional post_D_isConditional 118),
  (118, tt_ifne 127 121),
  (121, tt_il 2 122),
  (122, tt_k 70 124),
  (124, tt_icne 131 127),
  (127, tt_k 1 128),
  (128, tt_go 132),
  (131, tt_k 0 132),
  (132, tt_cV evLY 7 2 ev_n pre_D_come post_D_come 135),
  (135, tt_rv P)]
abbrev rm_D_follow : Room := { frames := 2, cells := 0, slots := 0, locals := 64 }
set_option maxRecDepth 20000 in
theorem ok_D_follow (l : Launch) (J : ev_K) (P : Unit → ev_M → ev_L → Prop) (X : ev_X l rm_D_follow evLY evCl ws_D_follow prog_9_method_17_code 4 y_D_follow.cls J) (Z : ev_Z J prog_9_method_17_code .return_ ev_n P) : ev_oks J (I_D_follow P) :=
  ⟨qq_aln X 0 rfl d_D_follow_0,
  qq_gf X 7 1 rfl (fun w h => List.mem_cons_of_mem _ (inE_D w h)) (by decide) (List.mem_cons_of_mem _ mw_755) d_D_follow_1,
  qq_iln X 1 rfl d_D_follow_4,
  qq_ia X d_D_follow_5,
  qq_isn X 2 rfl (by decide) d_D_follow_6,
  qq_iln X 2 rfl d_D_follow_7,
  qq_cS X (c_D_sizeOf l) (fun hts => va_cwS 1 hts (evGS (mw_881) (mw_882) (mw_8) (mw_883)) rfl rfl rfl (by decide +kernel) ⟨Nat.le_of_ble_eq_true rfl, Nat.le_of_ble_eq_true rfl⟩) d_D_follow_8,
  qq_isn X 3 rfl (by decide) d_D_follow_11,
  qq_iln X 3 rfl d_D_follow_12,
  qq_ifeq X 41 (by decide) d_D_follow_13,
  qq_iln X 2 rfl d_D_follow_16,
  qq_ic X 2 (by decide) d_D_follow_17,
  qq_iceq X 41 (by decide) d_D_follow_18,
  qq_iln X 2 rfl d_D_follow_21,
  qq_bp X 76 (by decide) d_D_follow_22,
  qq_iceq X 41 (by decide) d_D_follow_24,
  qq_iln X 2 rfl d_D_follow_27,
  qq_bp X 77 (by decide) d_D_follow_28,
  qq_iceq X 41 (by decide) d_D_follow_30,
  qq_iln X 1 rfl d_D_follow_33,
  qq_iln X 3 rfl d_D_follow_34,
  qq_iadd X d_D_follow_35,
  qq_bp X 96 (by decide) d_D_follow_36,
  qq_icle X 47 (by decide) d_D_follow_38,
  qq_aln X 0 rfl d_D_follow_41,
  qq_ic X 1 (by decide) d_D_follow_42,
  qq_pz X 7 13 rfl (fun w h => List.mem_cons_of_mem _ (inE_D w h)) (by decide) tyD tyD_ok nmD rfl (by decide +kernel) (List.mem_cons_of_mem _ mw_767) d_D_follow_43,
  qq_rv Z d_D_follow_46,
  qq_iln X 2 rfl d_D_follow_47,
  qq_cS X (c_D_branches l) (fun hts => va_cwS 1 hts (evGS (mw_884) (mw_885) (mw_8) (mw_886)) rfl rfl rfl (by decide +kernel) ⟨Nat.le_of_ble_eq_true rfl, Nat.le_of_ble_eq_true rfl⟩) d_D_follow_48,
  qq_ifne X 66 (by decide) d_D_follow_51,
  qq_iln X 2 rfl d_D_follow_54,
  qq_bp X 69 (by decide) d_D_follow_55,
  qq_iceq X 66 (by decide) d_D_follow_57,
  qq_iln X 2 rfl d_D_follow_60,
  qq_bp X 70 (by decide) d_D_follow_61,
  qq_icne X 76 (by decide) d_D_follow_63,
  qq_aln X 0 rfl d_D_follow_66,
  qq_aln X 0 rfl d_D_follow_67,
  qq_iln X 1 rfl d_D_follow_68,
  qq_cV X 7 rfl (c_D_target l) (fun hts => cwV 1 hts (evGV (mw_887) (mw_889) (mp_30) (mw_8) (mw_890)) rfl rfl rfl (by decide +kernel) ⟨Nat.le_of_ble_eq_true rfl, Nat.le_of_ble_eq_true rfl⟩) d_D_follow_69,
  qq_ic X 1 (by decide) d_D_follow_72,
  qq_cV X 7 rfl (c_D_come l) (fun hts => cwV 2 hts (evGV (mw_873) (mw_875) (mp_28) (mw_8) (mw_876)) rfl rfl rfl (by decide +kernel) ⟨Nat.le_of_ble_eq_true rfl, Nat.le_of_ble_eq_true rfl⟩) d_D_follow_73,
  qq_iln X 2 rfl d_D_follow_76,
  qq_cS X (c_D_isSwitch l) (fun hts => va_cwS 1 hts (evGS (mw_891) (mw_892) (mw_8) (mw_893)) rfl rfl rfl (by decide +kernel) ⟨Nat.le_of_ble_eq_true rfl, Nat.le_of_ble_eq_true rfl⟩) d_D_follow_77,
  qq_ifeq X 103 (by decide) d_D_follow_80,
  qq_aln X 0 rfl d_D_follow_83,
  qq_aln X 0 rfl d_D_follow_84,
  qq_gf X 7 1 rfl (fun w h => List.mem_cons_of_mem _ (inE_D w h)) (by decide) (List.mem_cons_of_mem _ mw_755) d_D_follow_85,
  qq_iln X 1 rfl d_D_follow_88,
  qq_ic X 1 (by decide) d_D_follow_89,
  qq_iadd X d_D_follow_90,
  qq_ia X d_D_follow_91,
  qq_aln X 0 rfl d_D_follow_92,
  qq_gf X 7 1 rfl (fun w h => List.mem_cons_of_mem _ (inE_D w h)) (by decide) (List.mem_cons_of_mem _ mw_755) d_D_follow_93,
  qq_iln X 1 rfl d_D_follow_96,
  qq_ic X 2 (by decide) d_D_follow_97,
  qq_iadd X d_D_follow_98,
  qq_ia X d_D_follow_99,
  qq_cV X 7 rfl (c_D_followTable l) (fun hts => cwV 2 hts (evGV (mw_894) (mw_896) (mp_31) (mw_8) (mw_897)) rfl rfl rfl (by decide +kernel) ⟨Nat.le_of_ble_eq_true rfl, Nat.le_of_ble_eq_true rfl⟩) d_D_follow_100,
  qq_iln X 2 rfl d_D_follow_103,
  qq_cS X (c_D_goesOn l) (fun hts => va_cwS 1 hts (evGS (mw_902) (mw_903) (mw_8) (mw_904)) rfl rfl rfl (by decide +kernel) ⟨Nat.le_of_ble_eq_true rfl, Nat.le_of_ble_eq_true rfl⟩) d_D_follow_104,
  qq_ifeq X 135 (by decide) d_D_follow_107,
  qq_aln X 0 rfl d_D_follow_110,
  qq_iln X 1 rfl d_D_follow_111,
  qq_iln X 3 rfl d_D_follow_112,
  qq_iadd X d_D_follow_113,
  qq_iln X 2 rfl d_D_follow_114,
  qq_cS X (c_D_isConditional l) (fun hts => va_cwS 1 hts (evGS (mw_905) (mw_906) (mw_8) (mw_907)) rfl rfl rfl (by decide +kernel) ⟨Nat.le_of_ble_eq_true rfl, Nat.le_of_ble_eq_true rfl⟩) d_D_follow_115,
  qq_ifne X 127 (by decide) d_D_follow_118,
  qq_iln X 2 rfl d_D_follow_121,
  qq_bp X 70 (by decide) d_D_follow_122,
  qq_icne X 131 (by decide) d_D_follow_124,
  qq_ic X 1 (by decide) d_D_follow_127,
  qq_go X 132 (by decide) d_D_follow_128,
  qq_ic X 0 (by decide) d_D_follow_131,
  qq_cV X 7 rfl (c_D_come l) (fun hts => cwV 2 hts (evGV (mw_873) (mw_875) (mp_28) (mw_8) (mw_876)) rfl rfl rfl (by decide +kernel) ⟨Nat.le_of_ble_eq_true rfl, Nat.le_of_ble_eq_true rfl⟩) d_D_follow_132,
  qq_rv Z d_D_follow_135, trivial⟩
def pre_D_follow : List Value → ev_M → ev_L → Prop := fun as σ _ => ∃ a : Nat, as = [.ref 30, .int (nI a)] ∧ a < 96 ∧ dD σ ∧ byF (σ 31)
def post_D_follow : List Value → ev_M → ev_L → Unit → ev_M → ev_L → Prop := fun as σ τ _ σ' τ' => match as with
  | [_, .int a] => τ' = τ ∧ dP σ σ' (¬ an_bad (σ 31) (sd_has σ) a) (fun x => ∃ h, an_sc (σ 31) a (nI x) h) (fun x => an_sc (σ 31) a (nI x) true) (fun x => an_tb (σ 31) a x)
  | _ => False
set_option maxHeartbeats 4000000 in
set_option maxRecDepth 100000 in
theorem c_D_follow (l : Launch) : ev_C ev_n l y_D_follow ws_D_follow rm_D_follow evLY evCl pre_D_follow post_D_follow := by
  refine ev_meth0 (by decide) rfl ev_rop_v ?_ I_D_follow (ok_D_follow l) 100 ?_
  · rintro _ σ τ ⟨a, rfl, h⟩
    exact Nat.le_of_ble_eq_true rfl
  · rintro _ σ τ ⟨n, rfl, hn, hD, hf⟩
    have a0 : 0 ≤ (nI n).toInt := by rw [nI_toInt (by omega)]; omega
    have a9 : (nI n).toInt < 96 := by rw [nI_toInt (by omega)]; omega
    have hnn : ¬ nI n < 0 := Int32.not_lt.mpr (in_i hn).1
    have hn9 : nI n < 96 := (in_i hn).2
    generalize nI n = a at *
    have a1 : (a + 1).toInt = a.toInt + 1 := i_add (by omega) (by omega) (by decide) (by decide)
    have a2 : (a + 2).toInt = a.toInt + 2 := i_add (by omega) (by omega) (by decide) (by decide)
    obtain ⟨v1, m1⟩ := m_at (σ := σ) (a := a) (by omega) (by omega)
    have hop := sp_at_by hf a
    obtain ⟨g2, g76, g77, g69, gsw⟩ := opG hop.1 hop.2
    obtain ⟨ggo, gl69⟩ := opG2 hop.1 hop.2
    obtain ⟨z1, z2, z3⟩ := sz0 hop.1 hop.2
    refine ⟨v1, ?_⟩
    rw [m1]
    refine ⟨⟨_, rfl⟩, ?_⟩
    rintro _ σ τ ⟨rfl, rfl, rfl⟩
    have refu : an_bad (σ 31) (sd_has σ) a → ((1 : Int32) = 0 ∨ (1 : Int32) = 1) ∧ post_D_follow [.ref 30, .int a] σ τ () (ev_u σ 30 13 1) τ := fun hb => ⟨Or.inr rfl, rfl, ⟨fun k a b c d => if_neg a, fun j a b => if_neg a⟩, Or.inr ⟨fun q => q hb, by show ¬ (1 : Int32) = 0; decide⟩⟩
    refine br_c (fun h => ?_) (fun hsz => br_c (fun h => ?_) (fun h2 => br_c (fun h => ?_) (fun h76 => br_c (fun h => ?_) (fun h77 => br_c (fun hle => ?_) (fun h => ?_)))))
    · exact refu (Or.inl fun q => q.1.2.2.1 (z1 h))
    · exact refu (Or.inl fun q => by have := q.2; rw [show anK (σ 31) a = 2 from g2.mp h] at this; cases this)
    · exact refu (Or.inl fun q => by have := q.2; rw [show anK (σ 31) a = 76 from g76.mp h] at this; cases this)
    · exact refu (Or.inl fun q => by have := q.2; rw [show anK (σ 31) a = 77 from g77.mp h] at this; cases this)
    · obtain ⟨hk1, hlen⟩ := z2 hsz
      have hgood : an_good (σ 31) a := ⟨⟨hnn, hn9, hk1, by rw [hlen]; exact hle⟩, decide_eq_false (fun q => q.elim (fun w => h2 (g2.mpr w)) (fun w => w.elim (fun w => h76 (g76.mpr w)) (fun w => h77 (g77.mpr w))))⟩
      obtain ⟨f1, f2, f3, f4, f5, f6, f7⟩ := opF hop.1 hop.2 hk1
      have fine : (∀ t h, an_sc (σ 31) a t h → 0 ≤ t ∧ t < 96) → (anK (σ 31) a = 72 → sd_has σ (sp_at (σ 31) (a + 1)) (sp_at (σ 31) (a + 2))) → ¬ an_bad (σ 31) (sd_has σ) a := by
        rintro h1 h2 (q | ⟨q1, q2⟩ | ⟨t, h, q1, q2⟩)
        · exact q hgood
        · exact q2 (h2 q1)
        · exact q2 (h1 t h q1)
      have back : ¬ an_bad (σ 31) (sd_has σ) a → ∀ t h, an_sc (σ 31) a t h → 0 ≤ t ∧ t < 96 := fun nb t h hs => Classical.byContradiction fun w => nb (Or.inr (Or.inr ⟨t, h, hs, w⟩))
      have ntb : ¬ anK (σ 31) a = 72 → ∀ x, ¬ an_tb (σ 31) a x := fun h x q => h q.1
      have tB : a + sd_size (sp_at (σ 31) a) = anB (σ 31) a := by show _ = a + _; rw [hlen]
      by_cases k60 : anK (σ 31) a = 60 ∨ anK (σ 31) a = 64
      · -- a branch that may be taken
        have n72 : ¬ anK (σ 31) a = 72 := by rcases k60 with q | q <;> rw [q] <;> decide
        have ebr : sd_br (sp_at (σ 31) a) = true := f6.mpr (k60.elim Or.inl (fun w => Or.inr (Or.inl w)))
        have eco : sd_cond (sp_at (σ 31) a) = true := f1.mpr k60
        have esw : sd_sw (sp_at (σ 31) a) = false := bt_f gsw n72
        have ego : sd_goes (sp_at (σ 31) a) = true := ggo.mpr (by rcases k60 with q | q <;> rw [show sp_kind (sp_at (σ 31) a) = _ from q] <;> decide)
        have etg : sd_tgt (σ 31) a = anT (σ 31) a := by
          unfold sd_tgt
          rw [if_pos ebr]
          show _ = a + sp_len _ + _
          rw [f7 (k60.elim Or.inl (fun w => Or.inr (Or.inl w)))]
        refine ⟨⟨_, rfl⟩, ?_⟩
        rintro _ σ τ ⟨rfl, rfl, rfl⟩
        rw [ebr]
        refine br_nt (by decide) ?_
        refine ⟨⟨_, rfl, a0, a9⟩, ?_⟩
        rintro _ σ τ ⟨rfl, rfl, rfl⟩
        rw [etg]
        refine ⟨⟨_, _, rfl⟩, ?_⟩
        rintro _ σ1 τ ⟨rfl, hc1⟩
        have p1 := d_come hc1
        refine ⟨⟨_, rfl⟩, ?_⟩
        rintro _ σ1 τ ⟨rfl, rfl, rfl⟩
        rw [esw]
        refine br_t rfl ?_
        refine ⟨⟨_, rfl⟩, ?_⟩
        rintro _ σ1 τ ⟨rfl, rfl, rfl⟩
        rw [ego]
        refine br_f (by decide) ?_
        refine ⟨⟨_, rfl⟩, ?_⟩
        rintro _ σ1 τ ⟨rfl, rfl, rfl⟩
        rw [eco]
        refine br_nt (by decide) ?_
        rw [tB]
        refine ⟨⟨_, _, rfl⟩, ?_⟩
        rintro _ σ2 τ ⟨rfl, hc2⟩
        have p2 := d_come hc2
        refine ⟨rfl, dP_eq (dP_tr p1 p2) ⟨fun q => fine (fun t h w => ?_) (fun w => absurd w n72), fun q => ⟨back q _ true ((sc_60 k60).mpr ⟨rfl, Or.inr rfl⟩), back q _ true ((sc_60 k60).mpr ⟨rfl, Or.inl rfl⟩)⟩⟩ (fun x _ => ?_) (fun x _ => ?_) (fun x _ => ?_)⟩
        · rcases ((sc_60 k60).mp w).2 with rfl | rfl
          · exact q.2
          · exact q.1
        · constructor
          · rintro (q | q)
            · exact ⟨true, (sc_60 k60).mpr ⟨rfl, Or.inr q⟩⟩
            · exact ⟨true, (sc_60 k60).mpr ⟨rfl, Or.inl q⟩⟩
          · rintro ⟨h, q⟩
            exact ((sc_60 k60).mp q).2.elim Or.inr Or.inl
        · constructor
          · rintro (q | q)
            · exact (sc_60 k60).mpr ⟨rfl, Or.inr q.2⟩
            · exact (sc_60 k60).mpr ⟨rfl, Or.inl q.2⟩
          · intro q
            exact ((sc_60 k60).mp q).2.elim (fun w => Or.inr ⟨by decide, w⟩) (fun w => Or.inl ⟨by decide, w⟩)
        · exact ⟨fun q => q.elim False.elim False.elim, fun q => absurd q (ntb n72 x)⟩
      by_cases k68 : anK (σ 31) a = 68
      · have n72 : ¬ anK (σ 31) a = 72 := by rw [k68]; decide
        have ebr : sd_br (sp_at (σ 31) a) = true := f6.mpr (Or.inr (Or.inr k68))
        have esw : sd_sw (sp_at (σ 31) a) = false := bt_f gsw n72
        have ego : sd_goes (sp_at (σ 31) a) = false := bt_f ggo (fun q => q.2.2.1 k68)
        have etg : sd_tgt (σ 31) a = anT (σ 31) a := by
          unfold sd_tgt
          rw [if_pos ebr]
          show _ = a + sp_len _ + _
          rw [f7 (Or.inr (Or.inr (Or.inl k68)))]
        refine ⟨⟨_, rfl⟩, ?_⟩
        rintro _ σ τ ⟨rfl, rfl, rfl⟩
        rw [ebr]
        refine br_nt (by decide) ?_
        refine ⟨⟨_, rfl, a0, a9⟩, ?_⟩
        rintro _ σ τ ⟨rfl, rfl, rfl⟩
        rw [etg]
        refine ⟨⟨_, _, rfl⟩, ?_⟩
        rintro _ σ1 τ ⟨rfl, hc1⟩
        have p1 := d_come hc1
        refine ⟨⟨_, rfl⟩, ?_⟩
        rintro _ σ1 τ ⟨rfl, rfl, rfl⟩
        rw [esw]
        refine br_t rfl ?_
        refine ⟨⟨_, rfl⟩, ?_⟩
        rintro _ σ1 τ ⟨rfl, rfl, rfl⟩
        rw [ego]
        refine br_t rfl ?_
        refine ⟨rfl, dP_eq p1 ⟨fun q => fine (fun t h w => ?_) (fun w => absurd w n72), fun q => back q _ true ((sc_68 k68).mpr ⟨rfl, rfl⟩)⟩ (fun x _ => ?_) (fun x _ => ?_) (fun x _ => ?_)⟩
        · rw [((sc_68 k68).mp w).2]; exact q
        · exact ⟨fun q => ⟨true, (sc_68 k68).mpr ⟨rfl, q⟩⟩, fun ⟨h, q⟩ => ((sc_68 k68).mp q).2⟩
        · exact ⟨fun q => (sc_68 k68).mpr ⟨rfl, q.2⟩, fun q => ⟨by decide, ((sc_68 k68).mp q).2⟩⟩
        · exact ⟨False.elim, fun q => absurd q (ntb n72 x)⟩
      have ebr : sd_br (sp_at (σ 31) a) = false := bt_f f6 (fun q => q.elim (fun w => k60 (Or.inl w)) (fun w => w.elim (fun w => k60 (Or.inr w)) k68))
      have eco : sd_cond (sp_at (σ 31) a) = false := bt_f f1 k60
      by_cases k69 : anK (σ 31) a = 69
      · have n72 : ¬ anK (σ 31) a = 72 := by rw [k69]; decide
        have esw : sd_sw (sp_at (σ 31) a) = false := bt_f gsw n72
        have ego : sd_goes (sp_at (σ 31) a) = false := bt_f ggo (fun q => q.2.2.2.1 k69)
        have etg : sd_tgt (σ 31) a = sp_at (σ 31) (a + 1) := by
          unfold sd_tgt
          rw [if_neg (by rw [ebr]; decide), if_pos (Or.inl (g69.mpr k69))]
        refine ⟨⟨_, rfl⟩, ?_⟩
        rintro _ σ τ ⟨rfl, rfl, rfl⟩
        rw [ebr]
        refine br_nf rfl ?_
        refine br_t (g69.mpr k69) ?_
        refine ⟨⟨_, rfl, a0, a9⟩, ?_⟩
        rintro _ σ τ ⟨rfl, rfl, rfl⟩
        rw [etg]
        refine ⟨⟨_, _, rfl⟩, ?_⟩
        rintro _ σ1 τ ⟨rfl, hc1⟩
        have p1 := d_come hc1
        refine ⟨⟨_, rfl⟩, ?_⟩
        rintro _ σ1 τ ⟨rfl, rfl, rfl⟩
        rw [esw]
        refine br_t rfl ?_
        refine ⟨⟨_, rfl⟩, ?_⟩
        rintro _ σ1 τ ⟨rfl, rfl, rfl⟩
        rw [ego]
        refine br_t rfl ?_
        refine ⟨rfl, dP_eq p1 ⟨fun q => fine (fun t h w => ?_) (fun w => absurd w n72), fun q => back q _ true ((sc_69 k69).mpr ⟨rfl, rfl⟩)⟩ (fun x _ => ?_) (fun x _ => ?_) (fun x _ => ?_)⟩
        · rw [((sc_69 k69).mp w).2]; exact q
        · exact ⟨fun q => ⟨true, (sc_69 k69).mpr ⟨rfl, q⟩⟩, fun ⟨h, q⟩ => ((sc_69 k69).mp q).2⟩
        · exact ⟨fun q => (sc_69 k69).mpr ⟨rfl, q.2⟩, fun q => ⟨by decide, ((sc_69 k69).mp q).2⟩⟩
        · exact ⟨False.elim, fun q => absurd q (ntb n72 x)⟩
      have n69 : ¬ sp_at (σ 31) a = 69 := fun q => k69 (g69.mp q)
      by_cases k70 : anK (σ 31) a = 70
      · have n72 : ¬ anK (σ 31) a = 72 := by rw [k70]; decide
        have esw : sd_sw (sp_at (σ 31) a) = false := bt_f gsw n72
        have ego : sd_goes (sp_at (σ 31) a) = true := ggo.mpr (by rw [show sp_kind (sp_at (σ 31) a) = _ from k70]; decide)
        have etg : sd_tgt (σ 31) a = sp_at (σ 31) (a + 1) := by
          unfold sd_tgt
          rw [if_neg (by rw [ebr]; decide), if_pos (Or.inr (f3.mpr k70))]
        refine ⟨⟨_, rfl⟩, ?_⟩
        rintro _ σ τ ⟨rfl, rfl, rfl⟩
        rw [ebr]
        refine br_nf rfl ?_
        refine br_f n69 ?_
        refine br_nf (f3.mpr k70) ?_
        refine ⟨⟨_, rfl, a0, a9⟩, ?_⟩
        rintro _ σ τ ⟨rfl, rfl, rfl⟩
        rw [etg]
        refine ⟨⟨_, _, rfl⟩, ?_⟩
        rintro _ σ1 τ ⟨rfl, hc1⟩
        have p1 := d_come hc1
        refine ⟨⟨_, rfl⟩, ?_⟩
        rintro _ σ1 τ ⟨rfl, rfl, rfl⟩
        rw [esw]
        refine br_t rfl ?_
        refine ⟨⟨_, rfl⟩, ?_⟩
        rintro _ σ1 τ ⟨rfl, rfl, rfl⟩
        rw [ego]
        refine br_f (by decide) ?_
        refine ⟨⟨_, rfl⟩, ?_⟩
        rintro _ σ1 τ ⟨rfl, rfl, rfl⟩
        rw [eco]
        refine br_nf rfl ?_
        refine br_nf (f3.mpr k70) ?_
        rw [tB]
        refine ⟨⟨_, _, rfl⟩, ?_⟩
        rintro _ σ2 τ ⟨rfl, hc2⟩
        have p2 := d_come hc2
        refine ⟨rfl, dP_eq (dP_tr p1 p2) ⟨fun q => fine (fun t h w => ?_) (fun w => absurd w n72), fun q => ⟨back q _ true ((sc_70 k70).mpr ⟨rfl, Or.inr rfl⟩), back q _ true ((sc_70 k70).mpr ⟨rfl, Or.inl rfl⟩)⟩⟩ (fun x _ => ?_) (fun x _ => ?_) (fun x _ => ?_)⟩
        · rcases ((sc_70 k70).mp w).2 with rfl | rfl
          · exact q.2
          · exact q.1
        · constructor
          · rintro (q | q)
            · exact ⟨true, (sc_70 k70).mpr ⟨rfl, Or.inr q⟩⟩
            · exact ⟨true, (sc_70 k70).mpr ⟨rfl, Or.inl q⟩⟩
          · rintro ⟨h, q⟩
            exact ((sc_70 k70).mp q).2.elim Or.inr Or.inl
        · constructor
          · rintro (q | q)
            · exact (sc_70 k70).mpr ⟨rfl, Or.inr q.2⟩
            · exact (sc_70 k70).mpr ⟨rfl, Or.inl q.2⟩
          · intro q
            exact ((sc_70 k70).mp q).2.elim (fun w => Or.inr ⟨by decide, w⟩) (fun w => Or.inl ⟨by decide, w⟩)
        · exact ⟨fun q => q.elim False.elim False.elim, fun q => absurd q (ntb n72 x)⟩
      have n70 : ¬ sp_at (σ 31) a = 70 := fun q => k70 (f3.mp q)
      refine ⟨⟨_, rfl⟩, ?_⟩
      rintro _ σ τ ⟨rfl, rfl, rfl⟩
      rw [ebr]
      refine br_nf rfl ?_
      refine br_f n69 ?_
      refine br_nt n70 ?_
      refine ⟨⟨_, rfl⟩, ?_⟩
      rintro _ σ τ ⟨rfl, rfl, rfl⟩
      by_cases k72 : anK (σ 31) a = 72
      · have esw : sd_sw (sp_at (σ 31) a) = true := gsw.mpr k72
        have ego : sd_goes (sp_at (σ 31) a) = false := bt_f ggo (fun q => q.2.2.2.2 k72)
        rw [esw]
        refine br_f (by decide) ?_
        obtain ⟨v2, m2⟩ := m_at (σ := σ) (a := a + 1) (by omega) (by omega)
        obtain ⟨v3, m3⟩ := m_at (σ := σ) (a := a + 2) (by omega) (by omega)
        refine ⟨v2, v3, ?_⟩
        rw [m2, m3]
        refine ⟨⟨_, _, rfl, hD⟩, ?_⟩
        rintro _ σ1 τ ⟨rfl, p1⟩
        refine ⟨⟨_, rfl⟩, ?_⟩
        rintro _ σ1 τ ⟨rfl, rfl, rfl⟩
        rw [ego]
        refine br_t rfl ?_
        refine ⟨rfl, dP_eq p1 ⟨fun q => fine (fun t h w => ?_) (fun _ => q.1), fun q => ⟨Classical.byContradiction fun w => q (Or.inr (Or.inl ⟨k72, w⟩)), fun i hi => back q _ true ((sc_72 k72).mpr ⟨rfl, i, hi, rfl⟩)⟩⟩ (fun x _ => ?_) (fun x _ => ?_) (fun x _ => ?_)⟩
        · obtain ⟨_, i, hi, rfl⟩ := (sc_72 k72).mp w
          exact q.2 i hi
        · exact ⟨fun q => ⟨true, (sc_72 k72).mpr ⟨rfl, q⟩⟩, fun ⟨h, q⟩ => ((sc_72 k72).mp q).2⟩
        · exact ⟨fun q => (sc_72 k72).mpr ⟨rfl, q⟩, fun q => ((sc_72 k72).mp q).2⟩
        · exact ⟨fun q => ⟨k72, q⟩, fun q => q.2⟩
      · rw [show sd_sw (sp_at (σ 31) a) = false from bt_f gsw k72]
        refine br_t rfl ?_
        refine ⟨⟨_, rfl⟩, ?_⟩
        rintro _ σ τ ⟨rfl, rfl, rfl⟩
        by_cases k0 : anK (σ 31) a = 0 ∨ anK (σ 31) a = 3
        · rw [show sd_goes (sp_at (σ 31) a) = false from bt_f ggo (fun q => k0.elim q.1 q.2.1)]
          refine br_t rfl ?_
          exact ⟨rfl, dP_eq (dP_rf σ) ⟨fun _ => fine (fun t h w => absurd w (sc_0 k0)) (fun w => absurd w k72), fun _ => trivial⟩ (fun x _ => ⟨False.elim, fun ⟨h, q⟩ => absurd q (sc_0 k0)⟩) (fun x _ => ⟨False.elim, fun q => absurd q (sc_0 k0)⟩) (fun x _ => ⟨False.elim, fun q => absurd q (ntb k72 x)⟩)⟩
        · have kd : ¬ anK (σ 31) a = 0 ∧ ¬ anK (σ 31) a = 3 ∧ ¬ anK (σ 31) a = 60 ∧ ¬ anK (σ 31) a = 64 ∧ ¬ anK (σ 31) a = 68 ∧ ¬ anK (σ 31) a = 69 ∧ ¬ anK (σ 31) a = 70 ∧ ¬ anK (σ 31) a = 72 := ⟨fun q => k0 (Or.inl q), fun q => k0 (Or.inr q), fun q => k60 (Or.inl q), fun q => k60 (Or.inr q), k68, k69, k70, k72⟩
          rw [show sd_goes (sp_at (σ 31) a) = true from ggo.mpr ⟨kd.1, kd.2.1, k68, k69, k72⟩]
          refine br_f (by decide) ?_
          refine ⟨⟨_, rfl⟩, ?_⟩
          rintro _ σ τ ⟨rfl, rfl, rfl⟩
          rw [eco]
          refine br_nf rfl ?_
          refine br_nt n70 ?_
          rw [tB]
          refine ⟨⟨_, _, rfl⟩, ?_⟩
          rintro _ σ1 τ ⟨rfl, hc1⟩
          have p1 := d_come hc1
          refine ⟨rfl, dP_eq p1 ⟨fun q => fine (fun t h w => ?_) (fun w => absurd w k72), fun q => back q _ false ((sc_d kd).mpr ⟨rfl, rfl⟩)⟩ (fun x _ => ?_) (fun x _ => ?_) (fun x _ => ?_)⟩
          · rw [((sc_d kd).mp w).2]; exact q
          · exact ⟨fun q => ⟨false, (sc_d kd).mpr ⟨rfl, q⟩⟩, fun ⟨h, q⟩ => ((sc_d kd).mp q).2⟩
          · exact ⟨fun q => absurd rfl q.1, fun q => absurd ((sc_d kd).mp q).1 (by decide)⟩
          · exact ⟨False.elim, fun q => absurd q (ntb k72 x)⟩
    · exact refu (Or.inl fun q => h (by have := q.1.2.2.2; rw [(z2 hsz).2] at this; exact this))
