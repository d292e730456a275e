/-! the reference's renew, renewBlock -/
theorem opF {op : Int32} (h0 : 0 ≤ op.toInt) (h1 : op.toInt < 256) (hk : ¬ sp_kind op = -1) : (sd_cond op = true ↔ (sp_kind op = 60 ∨ sp_kind op = 64)) ∧ (op = 68 ↔ sp_kind op = 68) ∧ (op = 70 ↔ sp_kind op = 70) ∧ sd_size op = sp_len (sp_kind op) ∧ sd_ends op = sp_ends (sp_kind op) ∧ (sd_br op = true ↔ (sp_kind op = 60 ∨ sp_kind op = 64 ∨ sp_kind op = 68)) ∧ ((sp_kind op = 60 ∨ sp_kind op = 64 ∨ sp_kind op = 68 ∨ sp_kind op = 70) → sp_len (sp_kind op) = 2) := by
  obtain ⟨j, hj, rfl⟩ := nI_of (x := op) (by rw [Int32.lt_iff_toInt_lt]; have : (0 : Int32).toInt = 0 := rfl; omega)
  rw [nI_toInt hj] at h1
  have k0 : ∀ n, n < 256 → ¬ sp_kind (nI n) = -1 → (sd_cond (nI n) = true ↔ (sp_kind (nI n) = 60 ∨ sp_kind (nI n) = 64)) := by decide +kernel
  have k1 : ∀ n, n < 256 → ¬ sp_kind (nI n) = -1 → (nI n = 68 ↔ sp_kind (nI n) = 68) := by decide +kernel
  have k2 : ∀ n, n < 256 → ¬ sp_kind (nI n) = -1 → (nI n = 70 ↔ sp_kind (nI n) = 70) := by decide +kernel
  have k3 : ∀ n, n < 256 → ¬ sp_kind (nI n) = -1 → sd_size (nI n) = sp_len (sp_kind (nI n)) := by decide +kernel
  have k4 : ∀ n, n < 256 → ¬ sp_kind (nI n) = -1 → sd_ends (nI n) = sp_ends (sp_kind (nI n)) := by decide +kernel
  have k5 : ∀ n, n < 256 → ¬ sp_kind (nI n) = -1 → (sd_br (nI n) = true ↔ (sp_kind (nI n) = 60 ∨ sp_kind (nI n) = 64 ∨ sp_kind (nI n) = 68)) := by decide +kernel
  have k6 : ∀ n, n < 256 → ¬ sp_kind (nI n) = -1 → ((sp_kind (nI n) = 60 ∨ sp_kind (nI n) = 64 ∨ sp_kind (nI n) = 68 ∨ sp_kind (nI n) = 70) → sp_len (sp_kind (nI n)) = 2) := by decide +kernel
  exact ⟨k0 j (by omega) hk, k1 j (by omega) hk, k2 j (by omega) hk, k3 j (by omega) hk, k4 j (by omega) hk, k5 j (by omega) hk, k6 j (by omega) hk⟩
/-- a branch's goal lies in the code -/
def tgOK (f : Nat → Int32) (a : Int32) : Prop := (sp_kind (sp_at f a) = 60 ∨ sp_kind (sp_at f a) = 64 ∨ sp_kind (sp_at f a) = 68) → 0 ≤ (a + sp_len (sp_kind (sp_at f a)) + (sp_at f (a + 1)).toInt8.toInt32).toInt ∧ (a + sp_len (sp_kind (sp_at f a)) + (sp_at f (a + 1)).toInt8.toInt32).toInt < 96
def y_D_renew : MethodName := ⟨RD, "renew", "(I)V"⟩
def ws_D_renew : List Cond := .code y_D_renew prog_9_method_26_code 5 none :: evW
theorem d_D_renew_0 : decode prog_9_method_26_code 0 = .ok (.aload_n 0, 1) := by decide +kernel
theorem d_D_renew_1 : decode prog_9_method_26_code 1 = .ok (.getfield 7, 3) := by decide +kernel
theorem d_D_renew_4 : decode prog_9_method_26_code 4 = .ok (.iload_n 1, 1) := by decide +kernel
theorem d_D_renew_5 : decode prog_9_method_26_code 5 = .ok (.iaload, 1) := by decide +kernel
theorem d_D_renew_6 : decode prog_9_method_26_code 6 = .ok (.istore_n 2, 1) := by decide +kernel
theorem d_D_renew_7 : decode prog_9_method_26_code 7 = .ok (.iload_n 2, 1) := by decide +kernel
theorem d_D_renew_8 : decode prog_9_method_26_code 8 = .ok (.invokestatic 97, 3) := by decide +kernel
theorem d_D_renew_11 : decode prog_9_method_26_code 11 = .ok (.istore_n 3, 1) := by decide +kernel
theorem d_D_renew_12 : decode prog_9_method_26_code 12 = .ok (.iload_n 2, 1) := by decide +kernel
theorem d_D_renew_13 : decode prog_9_method_26_code 13 = .ok (.invokestatic 114, 3) := by decide +kernel
theorem d_D_renew_16 : decode prog_9_method_26_code 16 = .ok (.ifCond .eq 32, 3) := by decide +kernel
theorem d_D_renew_19 : decode prog_9_method_26_code 19 = .ok (.aload_n 0, 1) := by decide +kernel
theorem d_D_renew_20 : decode prog_9_method_26_code 20 = .ok (.iload_n 2, 1) := by decide +kernel
theorem d_D_renew_21 : decode prog_9_method_26_code 21 = .ok (.invokevirtual 140, 3) := by decide +kernel
theorem d_D_renew_24 : decode prog_9_method_26_code 24 = .ok (.aload_n 0, 1) := by decide +kernel
theorem d_D_renew_25 : decode prog_9_method_26_code 25 = .ok (.iconst 2, 1) := by decide +kernel
theorem d_D_renew_26 : decode prog_9_method_26_code 26 = .ok (.invokevirtual 140, 3) := by decide +kernel
theorem d_D_renew_29 : decode prog_9_method_26_code 29 = .ok (.aload_n 0, 1) := by decide +kernel
theorem d_D_renew_30 : decode prog_9_method_26_code 30 = .ok (.iload_n 1, 1) := by decide +kernel
theorem d_D_renew_31 : decode prog_9_method_26_code 31 = .ok (.iconst 2, 1) := by decide +kernel
theorem d_D_renew_32 : decode prog_9_method_26_code 32 = .ok (.iadd, 1) := by decide +kernel
theorem d_D_renew_33 : decode prog_9_method_26_code 33 = .ok (.invokevirtual 143, 3) := by decide +kernel
theorem d_D_renew_36 : decode prog_9_method_26_code 36 = .ok (.aload_n 0, 1) := by decide +kernel
theorem d_D_renew_37 : decode prog_9_method_26_code 37 = .ok (.aload_n 0, 1) := by decide +kernel
theorem d_D_renew_38 : decode prog_9_method_26_code 38 = .ok (.iload_n 1, 1) := by decide +kernel
theorem d_D_renew_39 : decode prog_9_method_26_code 39 = .ok (.invokevirtual 100, 3) := by decide +kernel
theorem d_D_renew_42 : decode prog_9_method_26_code 42 = .ok (.invokevirtual 143, 3) := by decide +kernel
theorem d_D_renew_45 : decode prog_9_method_26_code 45 = .ok (.goto 83, 3) := by decide +kernel
theorem d_D_renew_48 : decode prog_9_method_26_code 48 = .ok (.iload_n 2, 1) := by decide +kernel
theorem d_D_renew_49 : decode prog_9_method_26_code 49 = .ok (.bipush 68, 2) := by decide +kernel
theorem d_D_renew_51 : decode prog_9_method_26_code 51 = .ok (.if_icmp .ne 15, 3) := by decide +kernel
theorem d_D_renew_54 : decode prog_9_method_26_code 54 = .ok (.aload_n 0, 1) := by decide +kernel
theorem d_D_renew_55 : decode prog_9_method_26_code 55 = .ok (.aload_n 0, 1) := by decide +kernel
theorem d_D_renew_56 : decode prog_9_method_26_code 56 = .ok (.iload_n 1, 1) := by decide +kernel
theorem d_D_renew_57 : decode prog_9_method_26_code 57 = .ok (.invokevirtual 100, 3) := by decide +kernel
theorem d_D_renew_60 : decode prog_9_method_26_code 60 = .ok (.invokevirtual 143, 3) := by decide +kernel
theorem d_D_renew_63 : decode prog_9_method_26_code 63 = .ok (.goto 65, 3) := by decide +kernel
theorem d_D_renew_66 : decode prog_9_method_26_code 66 = .ok (.iload_n 2, 1) := by decide +kernel
theorem d_D_renew_67 : decode prog_9_method_26_code 67 = .ok (.bipush 70, 2) := by decide +kernel
theorem d_D_renew_69 : decode prog_9_method_26_code 69 = .ok (.if_icmp .ne 31, 3) := by decide +kernel
theorem d_D_renew_72 : decode prog_9_method_26_code 72 = .ok (.aload_n 0, 1) := by decide +kernel
theorem d_D_renew_73 : decode prog_9_method_26_code 73 = .ok (.bipush 77, 2) := by decide +kernel
theorem d_D_renew_75 : decode prog_9_method_26_code 75 = .ok (.invokevirtual 140, 3) := by decide +kernel
theorem d_D_renew_78 : decode prog_9_method_26_code 78 = .ok (.aload_n 0, 1) := by decide +kernel
theorem d_D_renew_79 : decode prog_9_method_26_code 79 = .ok (.aload_n 0, 1) := by decide +kernel
theorem d_D_renew_80 : decode prog_9_method_26_code 80 = .ok (.getfield 7, 3) := by decide +kernel
theorem d_D_renew_83 : decode prog_9_method_26_code 83 = .ok (.iload_n 1, 1) := by decide +kernel
theorem d_D_renew_84 : decode prog_9_method_26_code 84 = .ok (.iconst 1, 1) := by decide +kernel
theorem d_D_renew_85 : decode prog_9_method_26_code 85 = .ok (.iadd, 1) := by decide +kernel
theorem d_D_renew_86 : decode prog_9_method_26_code 86 = .ok (.iaload, 1) := by decide +kernel
theorem d_D_renew_87 : decode prog_9_method_26_code 87 = .ok (.invokevirtual 140, 3) := by decide +kernel
theorem d_D_renew_90 : decode prog_9_method_26_code 90 = .ok (.aload_n 0, 1) := by decide +kernel
theorem d_D_renew_91 : decode prog_9_method_26_code 91 = .ok (.iload_n 1, 1) := by decide +kernel
theorem d_D_renew_92 : decode prog_9_method_26_code 92 = .ok (.iconst 2, 1) := by decide +kernel
theorem d_D_renew_93 : decode prog_9_method_26_code 93 = .ok (.iadd, 1) := by decide +kernel
theorem d_D_renew_94 : decode prog_9_method_26_code 94 = .ok (.invokevirtual 140, 3) := by decide +kernel
theorem d_D_renew_97 : decode prog_9_method_26_code 97 = .ok (.goto 31, 3) := by decide +kernel
theorem d_D_renew_100 : decode prog_9_method_26_code 100 = .ok (.iload_n 1, 1) := by decide +kernel
theorem d_D_renew_101 : decode prog_9_method_26_code 101 = .ok (.istore 4, 2) := by decide +kernel
theorem d_D_renew_103 : decode prog_9_method_26_code 103 = .ok (.iload 4, 2) := by decide +kernel
theorem d_D_renew_105 : decode prog_9_method_26_code 105 = .ok (.iload_n 1, 1) := by decide +kernel
theorem d_D_renew_106 : decode prog_9_method_26_code 106 = .ok (.iload_n 3, 1) := by decide +kernel
theorem d_D_renew_107 : decode prog_9_method_26_code 107 = .ok (.iadd, 1) := by decide +kernel
theorem d_D_renew_108 : decode prog_9_method_26_code 108 = .ok (.if_icmp .ge 20, 3) := by decide +kernel
theorem d_D_renew_111 : decode prog_9_method_26_code 111 = .ok (.aload_n 0, 1) := by decide +kernel
theorem d_D_renew_112 : decode prog_9_method_26_code 112 = .ok (.aload_n 0, 1) := by decide +kernel
theorem d_D_renew_113 : decode prog_9_method_26_code 113 = .ok (.getfield 7, 3) := by decide +kernel
theorem d_D_renew_116 : decode prog_9_method_26_code 116 = .ok (.iload 4, 2) := by decide +kernel
theorem d_D_renew_118 : decode prog_9_method_26_code 118 = .ok (.iaload, 1) := by decide +kernel
theorem d_D_renew_119 : decode prog_9_method_26_code 119 = .ok (.invokevirtual 140, 3) := by decide +kernel
theorem d_D_renew_122 : decode prog_9_method_26_code 122 = .ok (.iinc 4 1, 3) := by decide +kernel
theorem d_D_renew_125 : decode prog_9_method_26_code 125 = .ok (.goto (-22), 3) := by decide +kernel
theorem d_D_renew_128 : decode prog_9_method_26_code 128 = .ok (.return_, 1) := by decide +kernel
def I_D_renew (P : Unit → ev_M → ev_L → Prop) : List (Nat × ev_T) := [(0, tt_al 0 1),
  (1, tt_gf evLY 7 1 4),
  (4, tt_il 1 5),
  (5, tt_ia evLY 6),
  (6, tt_is 2 7),
  (7, tt_il 2 8),
  (8, tt_cS 1 ev_i pre_D_sizeOf post_D_sizeOf 11),
  (11, tt_is 3 12),
  (12, tt_il 2 13),
  (13, tt_cS 1 ev_b pre_D_isConditional post_D_isConditional 16),
  (16, tt_ifeq 48 19),
  (19, tt_al 0 20),
  (20, tt_il 2 21),
  (21, tt_cV evLY 7 1 ev_n pre_D_emit post_D_emit 24),
  (24, tt_al 0 25),
  (25, tt_k 2 26),
  (26, tt_cV evLY 7 1 ev_n pre_D_emit post_D_emit 29),
  (29, tt_al 0 30),
  (30, tt_il 1 31),
  (31, tt_k 2 32),
  (32, tt_iadd 33),
  (33, tt_cV evLY 7 1 ev_n pre_D_jumpTo post_D_jumpTo 36),
  (36, tt_al 0 37),
  (37, tt_al 0 38),
  (38, tt_il 1 39),
  (39, tt_cV evLY 7 1 ev_i pre_D_target post_D_target 42),
  (42, tt_cV evLY 7 1 ev_n pre_D_jumpTo post_D_jumpTo 45),
  (45, tt_go 128),
  (48, tt_il 2 49),
  (49, tt_k 68 51),
  (51, tt_icne 66 54),
  (54, tt_al 0 55),
  (55, tt_al 0 56),
  (56, tt_il 1 57),
  (57, tt_cV evLY 7 1 ev_i pre_D_target post_D_target 60),
  (60, tt_cV evLY 7 1 ev_n pre_D_jumpTo post_D_jumpTo 63),
  (63, tt_go 128),
  (66, tt_il 2 67),
  (67, tt_k 70 69),
  (69, tt_icne 100 72),
  (72, tt_al 0 73),
  (73, tt_k 77 75),
  (75, tt_cV evLY 7 1 ev_n pre_D_emit post_D_emit 78),
  (78, tt_al 0 79),
  (79, tt_al 0 80),
  (80, tt_gf evLY 7 1 83),
  (83, tt_il 1 84),
  (84, tt_k 1 85),
  (85, tt_iadd 86),
  (86, tt_ia evLY 87),
  (87, tt_cV evLY 7 1 ev_n pre_D_emit post_D_emit 90),
  (90, tt_al 0 91),
  (91, tt_il 1 92),
  (92, tt_k 2 93),
  (93, tt_iadd 94),
  (94, tt_cV evLY 7 1 ev_n pre_D_emit post_D_emit 97),
  (97, tt_go 128),
  (100, tt_il 1 101),
  (101, tt_is 4 103),
  (103, tt_il 4 105),
  (105, tt_il 1 106),
  (106, tt_il 3 107),
  (107, tt_iadd 108),
  (108, tt_icge 128 111),
  (111, tt_al 0 112),
  (112, tt_al 0 113),
  (113, tt_gf evLY 7 1 116),
  (116, tt_il 4 118),
  (118, tt_ia evLY 119),
  (119, tt_cV evLY 7 1 ev_n pre_D_emit post_D_emit 122),
  (122, tt_ii 4 1 125),
  (125, tt_go 103),
  (128, tt_rv P)]
abbrev rm_D_renew : Room := { frames := 2, cells := 0, slots := 0, locals := 64 }
set_option maxRecDepth 20000 in
theorem ok_D_renew (l : Launch) (J : ev_K) (P : Unit → ev_M → ev_L → Prop) (X : ev_X l rm_D_renew evLY evCl ws_D_renew prog_9_method_26_code 5 y_D_renew.cls J) (Z : ev_Z J prog_9_method_26_code .return_ ev_n P) : ev_oks J (I_D_renew P) :=
  ⟨qq_aln X 0 rfl d_D_renew_0,
  qq_gf X 7 1 rfl (fun w h => List.mem_cons_of_mem _ (inE_D w h)) (by decide) (List.mem_cons_of_mem _ mw_755) d_D_renew_1,
  qq_iln X 1 rfl d_D_renew_4,
  qq_ia X d_D_renew_5,
  qq_isn X 2 rfl (by decide) d_D_renew_6,
  qq_iln X 2 rfl d_D_renew_7,
  qq_cS X (c_D_sizeOf l) (fun hts => va_cwS 1 hts (evGS (mw_881) (mw_882) (mw_8) (mw_883)) rfl rfl rfl (by decide +kernel) ⟨Nat.le_of_ble_eq_true rfl, Nat.le_of_ble_eq_true rfl⟩) d_D_renew_8,
  qq_isn X 3 rfl (by decide) d_D_renew_11,
  qq_iln X 2 rfl d_D_renew_12,
  qq_cS X (c_D_isConditional l) (fun hts => va_cwS 1 hts (evGS (mw_905) (mw_906) (mw_8) (mw_907)) rfl rfl rfl (by decide +kernel) ⟨Nat.le_of_ble_eq_true rfl, Nat.le_of_ble_eq_true rfl⟩) d_D_renew_13,
  qq_ifeq X 48 (by decide) d_D_renew_16,
  qq_aln X 0 rfl d_D_renew_19,
  qq_iln X 2 rfl d_D_renew_20,
  qq_cV X 7 rfl (c_D_emit l) (fun hts => cwV 1 hts (evGV (mw_935) (mw_937) (mp_36) (mw_8) (mw_938)) rfl rfl rfl (by decide +kernel) ⟨Nat.le_of_ble_eq_true rfl, Nat.le_of_ble_eq_true rfl⟩) d_D_renew_21,
  qq_aln X 0 rfl d_D_renew_24,
  qq_ic X 2 (by decide) d_D_renew_25,
  qq_cV X 7 rfl (c_D_emit l) (fun hts => cwV 1 hts (evGV (mw_935) (mw_937) (mp_36) (mw_8) (mw_938)) rfl rfl rfl (by decide +kernel) ⟨Nat.le_of_ble_eq_true rfl, Nat.le_of_ble_eq_true rfl⟩) d_D_renew_26,
  qq_aln X 0 rfl d_D_renew_29,
  qq_iln X 1 rfl d_D_renew_30,
  qq_ic X 2 (by decide) d_D_renew_31,
  qq_iadd X d_D_renew_32,
  qq_cV X 7 rfl (c_D_jumpTo l) (fun hts => cwV 1 hts (evGV (mw_943) (mw_945) (mp_38) (mw_8) (mw_946)) rfl rfl rfl (by decide +kernel) ⟨Nat.le_of_ble_eq_true rfl, Nat.le_of_ble_eq_true rfl⟩) d_D_renew_33,
  qq_aln X 0 rfl d_D_renew_36,
  qq_aln X 0 rfl d_D_renew_37,
  qq_iln X 1 rfl d_D_renew_38,
  qq_cV X 7 rfl (c_D_target l) (fun hts => cwV 1 hts (evGV (mw_887) (mw_889) (mp_30) (mw_8) (mw_890)) rfl rfl rfl (by decide +kernel) ⟨Nat.le_of_ble_eq_true rfl, Nat.le_of_ble_eq_true rfl⟩) d_D_renew_39,
  qq_cV X 7 rfl (c_D_jumpTo l) (fun hts => cwV 1 hts (evGV (mw_943) (mw_945) (mp_38) (mw_8) (mw_946)) rfl rfl rfl (by decide +kernel) ⟨Nat.le_of_ble_eq_true rfl, Nat.le_of_ble_eq_true rfl⟩) d_D_renew_42,
  qq_go X 128 (by decide) d_D_renew_45,
  qq_iln X 2 rfl d_D_renew_48,
  qq_bp X 68 (by decide) d_D_renew_49,
  qq_icne X 66 (by decide) d_D_renew_51,
  qq_aln X 0 rfl d_D_renew_54,
  qq_aln X 0 rfl d_D_renew_55,
  qq_iln X 1 rfl d_D_renew_56,
  qq_cV X 7 rfl (c_D_target l) (fun hts => cwV 1 hts (evGV (mw_887) (mw_889) (mp_30) (mw_8) (mw_890)) rfl rfl rfl (by decide +kernel) ⟨Nat.le_of_ble_eq_true rfl, Nat.le_of_ble_eq_true rfl⟩) d_D_renew_57,
  qq_cV X 7 rfl (c_D_jumpTo l) (fun hts => cwV 1 hts (evGV (mw_943) (mw_945) (mp_38) (mw_8) (mw_946)) rfl rfl rfl (by decide +kernel) ⟨Nat.le_of_ble_eq_true rfl, Nat.le_of_ble_eq_true rfl⟩) d_D_renew_60,
  qq_go X 128 (by decide) d_D_renew_63,
  qq_iln X 2 rfl d_D_renew_66,
  qq_bp X 70 (by decide) d_D_renew_67,
  qq_icne X 100 (by decide) d_D_renew_69,
  qq_aln X 0 rfl d_D_renew_72,
  qq_bp X 77 (by decide) d_D_renew_73,
  qq_cV X 7 rfl (c_D_emit l) (fun hts => cwV 1 hts (evGV (mw_935) (mw_937) (mp_36) (mw_8) (mw_938)) rfl rfl rfl (by decide +kernel) ⟨Nat.le_of_ble_eq_true rfl, Nat.le_of_ble_eq_true rfl⟩) d_D_renew_75,
  qq_aln X 0 rfl d_D_renew_78,
  qq_aln X 0 rfl d_D_renew_79,
  qq_gf X 7 1 rfl (fun w h => List.mem_cons_of_mem _ (inE_D w h)) (by decide) (List.mem_cons_of_mem _ mw_755) d_D_renew_80,
  qq_iln X 1 rfl d_D_renew_83,
  qq_ic X 1 (by decide) d_D_renew_84,
  qq_iadd X d_D_renew_85,
  qq_ia X d_D_renew_86,
  qq_cV X 7 rfl (c_D_emit l) (fun hts => cwV 1 hts (evGV (mw_935) (mw_937) (mp_36) (mw_8) (mw_938)) rfl rfl rfl (by decide +kernel) ⟨Nat.le_of_ble_eq_true rfl, Nat.le_of_ble_eq_true rfl⟩) d_D_renew_87,
  qq_aln X 0 rfl d_D_renew_90,
  qq_iln X 1 rfl d_D_renew_91,
  qq_ic X 2 (by decide) d_D_renew_92,
  qq_iadd X d_D_renew_93,
  qq_cV X 7 rfl (c_D_emit l) (fun hts => cwV 1 hts (evGV (mw_935) (mw_937) (mp_36) (mw_8) (mw_938)) rfl rfl rfl (by decide +kernel) ⟨Nat.le_of_ble_eq_true rfl, Nat.le_of_ble_eq_true rfl⟩) d_D_renew_94,
  qq_go X 128 (by decide) d_D_renew_97,
  qq_iln X 1 rfl d_D_renew_100,
  qq_is X 4 (by decide) d_D_renew_101,
  qq_il X 4 d_D_renew_103,
  qq_iln X 1 rfl d_D_renew_105,
  qq_iln X 3 rfl d_D_renew_106,
  qq_iadd X d_D_renew_107,
  qq_icge X 128 (by decide) d_D_renew_108,
  qq_aln X 0 rfl d_D_renew_111,
  qq_aln X 0 rfl d_D_renew_112,
  qq_gf X 7 1 rfl (fun w h => List.mem_cons_of_mem _ (inE_D w h)) (by decide) (List.mem_cons_of_mem _ mw_755) d_D_renew_113,
  qq_il X 4 d_D_renew_116,
  qq_ia X d_D_renew_118,
  qq_cV X 7 rfl (c_D_emit l) (fun hts => cwV 1 hts (evGV (mw_935) (mw_937) (mp_36) (mw_8) (mw_938)) rfl rfl rfl (by decide +kernel) ⟨Nat.le_of_ble_eq_true rfl, Nat.le_of_ble_eq_true rfl⟩) d_D_renew_119,
  qq_ii X 4 1 (by decide) (by decide) d_D_renew_122,
  qq_go X 103 (by decide) d_D_renew_125,
  qq_rv Z d_D_renew_128, trivial⟩
def pre_D_renew : List Value → ev_M → ev_L → Prop := fun as σ _ => ∃ a : Int32, as = [.ref 30, .int a] ∧ 0 ≤ a.toInt ∧ a.toInt < 96 ∧ byF (σ 31) ∧ sp_okR (σ 31) a 96 ∧ tgOK (σ 31) a ∧ 0 ≤ (σ 30 19).toInt ∧ (σ 30 19).toInt ≤ 50000
def post_D_renew : List Value → ev_M → ev_L → Unit → ev_M → ev_L → Prop := fun as σ τ _ σ' τ' => match as with
  | [_, .int a] => rvD σ' = rw_at (σ 31) a (rvD σ) ∧ frV σ σ' ∧ (σ 30 19).toInt ≤ (σ' 30 19).toInt ∧ (σ' 30 19).toInt ≤ (σ 30 19).toInt + 6 ∧ τ' = τ
  | _ => False
set_option maxHeartbeats 4000000 in
set_option maxRecDepth 100000 in
theorem c_D_renew (l : Launch) : ev_C ev_n l y_D_renew ws_D_renew rm_D_renew evLY evCl pre_D_renew post_D_renew := by
  refine ev_meth0 (by decide) rfl ev_rop_v ?_ I_D_renew (ok_D_renew l) 100 ?_
  · rintro _ σ τ ⟨a, rfl, h⟩
    exact Nat.le_of_ble_eq_true rfl
  · rintro _ σ τ ⟨a, rfl, h0, h1, hf, hok, htg, e0, e1⟩
    have a1 : (a + 1).toInt = a.toInt + 1 := i_add (by omega) (by omega) (by decide) (by decide)
    have a2 : (a + 2).toInt = a.toInt + 2 := i_add (by omega) (by omega) (by decide) (by decide)
    have a3 : (a + 3).toInt = a.toInt + 3 := i_add (by omega) (by omega) (by decide) (by decide)
    obtain ⟨v1, m1⟩ := m_at (σ := σ) (a := a) (by omega) (by omega)
    have hop := sp_at_by hf a
    have hn := sp_at_by hf (a + 1)
    have hm := sp_at_by hf (a + 2)
    obtain ⟨f1, f2, f3, f4, f5, f6, f7⟩ := opF hop.1 hop.2 hok.2.2.1
    refine ⟨v1, ?_⟩
    rw [m1]
    refine ⟨⟨_, rfl⟩, ?_⟩
    rintro _ σ τ ⟨rfl, rfl, rfl⟩
    refine ⟨⟨_, rfl⟩, ?_⟩
    rintro _ σ τ ⟨rfl, rfl, rfl⟩
    have tgt : ∀ (σ3 : ev_M), frV σ σ3 → (sp_kind (sp_at (σ 31) a) = 60 ∨ sp_kind (sp_at (σ 31) a) = 64 ∨ sp_kind (sp_at (σ 31) a) = 68) → sd_tgt (σ3 31) a = a + sp_len (sp_kind (sp_at (σ 31) a)) + (sp_at (σ 31) (a + 1)).toInt8.toInt32 := by
      intro σ3 hfr hk
      unfold sd_tgt
      rw [frV_sp hfr, if_pos (f6.mpr hk), f7 (by rcases hk with h | h | h <;> simp [h])]
    refine br_c (fun hc => ?_) (fun hc => ?_)
    · have hc' : ¬ (sp_kind (sp_at (σ 31) a) = 60 ∨ sp_kind (sp_at (σ 31) a) = 64) := fun q => by
        have := f1.mpr q
        rw [bz hc] at this
        cases this
      refine br_n (fun h68 => br_n (fun h70 => ?_) (fun h70 => ?_)) (fun h68 => ?_)
      · -- copy
        have hr : rw_at (σ 31) a (rvD σ) = rw_copy (sp_at (σ 31) a) (sp_at (σ 31) (a + 1)) (sp_at (σ 31) (a + 2)) (sp_len (sp_kind (sp_at (σ 31) a))) (rvD σ) := (if_neg hc').trans ((if_neg (fun q => h68 (f2.mpr q))).trans (if_neg (fun q => h70 (f3.mpr q))))
        rw [f4]
        have g1 : ∀ (σ3 : ev_M), frV σ σ3 → σ3 31 a.toNatClampNeg = sp_at (σ 31) a := fun σ3 hfr => by rw [(m_at (σ := σ3) (a := a) (by omega) (by omega)).2, frV_at hfr]
        have g2 : ∀ (σ3 : ev_M), frV σ σ3 → σ3 31 (a + 1).toNatClampNeg = sp_at (σ 31) (a + 1) := fun σ3 hfr => by rw [(m_at (σ := σ3) (a := a + 1) (by omega) (by omega)).2, frV_at hfr]
        have g3 : ∀ (σ3 : ev_M), frV σ σ3 → σ3 31 (a + 1 + 1).toNatClampNeg = sp_at (σ 31) (a + 2) := fun σ3 hfr => by rw [show a + 1 + 1 = a + 2 by rw [Int32.add_assoc]; rfl, (m_at (σ := σ3) (a := a + 2) (by omega) (by omega)).2, frV_at hfr]
        have a11 : (a + 1 + 1).toInt = a.toInt + 2 := by rw [show a + 1 + 1 = a + 2 by rw [Int32.add_assoc]; rfl]; exact a2
        have a111 : (a + 1 + 1 + 1).toInt = a.toInt + 3 := by rw [show a + 1 + 1 + 1 = a + 3 by rw [Int32.add_assoc, Int32.add_assoc]; rfl]; exact a3
        rcases len_cases (sp_kind (sp_at (σ 31) a)) with hl | hl | hl
        · rw [hl] at hr ⊢
          refine br_f (by rw [Int32.le_iff_toInt_le]; omega) ?_
          refine ⟨v1, ⟨⟨_, rfl, by rw [g1 _ (frV_rf σ)]; exact hop.1, by rw [g1 _ (frV_rf σ)]; exact hop.2, e0, by omega⟩, ?_⟩⟩
          rintro _ σ1 τ1 ⟨w1, q1, x1, rfl⟩
          refine br_t (by rw [Int32.le_iff_toInt_le]; omega) ?_
          refine ⟨?_, q1, by omega, by omega, rfl⟩
          rw [hr, w1, g1 _ (frV_rf σ)]
          rfl
        · rw [hl] at hr ⊢
          refine br_f (by rw [Int32.le_iff_toInt_le]; omega) ?_
          refine ⟨v1, ⟨⟨_, rfl, by rw [g1 _ (frV_rf σ)]; exact hop.1, by rw [g1 _ (frV_rf σ)]; exact hop.2, e0, by omega⟩, ?_⟩⟩
          rintro _ σ1 τ1 ⟨w1, q1, x1, rfl⟩
          refine br_f (by rw [Int32.le_iff_toInt_le]; omega) ?_
          refine ⟨by rw [vp_in_iff]; omega, ⟨⟨_, rfl, by rw [g2 _ q1]; exact hn.1, by rw [g2 _ q1]; exact hn.2, by omega, by omega⟩, ?_⟩⟩
          rintro _ σ2 τ2 ⟨w2, q2, x2, rfl⟩
          refine br_t (by rw [Int32.le_iff_toInt_le]; omega) ?_
          refine ⟨?_, frV_tr q1 q2, by omega, by omega, rfl⟩
          rw [hr, w2, w1, g1 _ (frV_rf σ), g2 _ q1]
          rfl
        · rw [hl] at hr ⊢
          refine br_f (by rw [Int32.le_iff_toInt_le]; omega) ?_
          refine ⟨v1, ⟨⟨_, rfl, by rw [g1 _ (frV_rf σ)]; exact hop.1, by rw [g1 _ (frV_rf σ)]; exact hop.2, e0, by omega⟩, ?_⟩⟩
          rintro _ σ1 τ1 ⟨w1, q1, x1, rfl⟩
          refine br_f (by rw [Int32.le_iff_toInt_le]; omega) ?_
          refine ⟨by rw [vp_in_iff]; omega, ⟨⟨_, rfl, by rw [g2 _ q1]; exact hn.1, by rw [g2 _ q1]; exact hn.2, by omega, by omega⟩, ?_⟩⟩
          rintro _ σ2 τ2 ⟨w2, q2, x2, rfl⟩
          refine br_f (by rw [Int32.le_iff_toInt_le]; omega) ?_
          refine ⟨by rw [vp_in_iff]; omega, ⟨⟨_, rfl, by rw [g3 _ (frV_tr q1 q2)]; exact hm.1, by rw [g3 _ (frV_tr q1 q2)]; exact hm.2, by omega, by omega⟩, ?_⟩⟩
          rintro _ σ3 τ3 ⟨w3, q3, x3, rfl⟩
          refine br_t (by rw [Int32.le_iff_toInt_le]; omega) ?_
          refine ⟨?_, frV_tr q1 (frV_tr q2 q3), by omega, by omega, rfl⟩
          rw [hr, w3, w2, w1, g1 _ (frV_rf σ), g2 _ q1, g3 _ (frV_tr q1 q2)]
          rfl
      · -- call
        have hk := f3.mp h70
        have hl2 := f7 (Or.inr (Or.inr (Or.inr hk)))
        refine ⟨⟨_, rfl, by decide, by decide, e0, by omega⟩, ?_⟩
        rintro _ σ1 τ1 ⟨w1, q1, x1, rfl⟩
        obtain ⟨v2, m2⟩ := m_at (σ := σ1) (a := a + 1) (by omega) (by omega)
        rw [frV_at q1] at m2
        refine ⟨v2, ?_⟩
        rw [m2]
        refine ⟨⟨_, rfl, hn.1, hn.2, by omega, by omega⟩, ?_⟩
        rintro _ σ2 τ2 ⟨w2, q2, x2, rfl⟩
        refine ⟨⟨_, rfl, by omega, by omega, by omega, by omega⟩, ?_⟩
        rintro _ σ3 τ3 ⟨w3, q3, x3, rfl⟩
        refine ⟨?_, frV_tr q1 (frV_tr q2 q3), by omega, by omega, rfl⟩
        rw [w3, w2, w1]
        have hr : rw_at (σ 31) a (rvD σ) = rw_app (a + sp_len (sp_kind (sp_at (σ 31) a))) (rw_app (sp_at (σ 31) (a + 1)) (rw_app 77 (rvD σ))) := (if_neg hc').trans ((if_neg (fun q => h68 (f2.mpr q))).trans (if_pos hk))
        rw [hr, hl2]
      · -- branch
        have hk := f2.mp h68
        have hl2 := f7 (Or.inr (Or.inr (Or.inl hk)))
        refine ⟨⟨_, rfl, h0, h1⟩, ?_⟩
        rintro _ σ1 τ1 ⟨rfl, rfl, rfl⟩
        rw [tgt _ (frV_rf _) (Or.inr (Or.inr hk))]
        have ht := htg (Or.inr (Or.inr hk))
        refine ⟨⟨_, rfl, ht.1, by omega, e0, by omega⟩, ?_⟩
        rintro _ σ2 τ2 ⟨w2, q2, x2, rfl⟩
        refine ⟨?_, q2, by omega, by omega, rfl⟩
        rw [w2]
        exact ((if_neg hc').trans (if_pos hk)).symm
    · -- conditional
      have hk := f1.mp (bnz hc)
      have hk3 : sp_kind (sp_at (σ 31) a) = 60 ∨ sp_kind (sp_at (σ 31) a) = 64 ∨ sp_kind (sp_at (σ 31) a) = 68 := hk.elim Or.inl (fun q => Or.inr (Or.inl q))
      have hl2 := f7 (hk.elim Or.inl (fun q => Or.inr (Or.inl q)))
      have ht := htg hk3
      refine ⟨⟨_, rfl, hop.1, hop.2, e0, by omega⟩, ?_⟩
      rintro _ σ1 τ1 ⟨w1, q1, x1, rfl⟩
      refine ⟨⟨_, rfl, by decide, by decide, by omega, by omega⟩, ?_⟩
      rintro _ σ2 τ2 ⟨w2, q2, x2, rfl⟩
      refine ⟨⟨_, rfl, by omega, by omega, by omega, by omega⟩, ?_⟩
      rintro _ σ3 τ3 ⟨w3, q3, x3, rfl⟩
      refine ⟨⟨_, rfl, h0, h1⟩, ?_⟩
      rintro _ σ3 τ ⟨rfl, rfl, rfl⟩
      rw [tgt _ (frV_tr q1 (frV_tr q2 q3)) hk3]
      refine ⟨⟨_, rfl, ht.1, by omega, by omega, by omega⟩, ?_⟩
      rintro _ σ4 τ4 ⟨w4, q4, x4, rfl⟩
      refine ⟨?_, frV_tr q1 (frV_tr q2 (frV_tr q3 q4)), by omega, by omega, rfl⟩
      rw [w4, w3, w2, w1]
      have hr : rw_at (σ 31) a (rvD σ) = rw_jump (a + sp_len (sp_kind (sp_at (σ 31) a)) + (sp_at (σ 31) (a + 1)).toInt8.toInt32) (rw_jump (a + sp_len (sp_kind (sp_at (σ 31) a))) (rw_app 2 (rw_app (sp_at (σ 31) a) (rvD σ)))) := if_pos hk
      rw [hr, hl2]
def vbD (f : Nat → Int32) (hd sz : Int32) : Prop := vbC f hd sz ∧ tgOK f hd ∧ (2 ≤ sz.toInt → sp_len (sp_kind (sp_at f hd)) = 1 → tgOK f (hd + 1))
theorem okR_sp {f g : Nat → Int32} (h : sp_at f = sp_at g) {a m : Int32} (ho : sp_okR f a m) : sp_okR g a m := by
  unfold sp_okR at *
  rw [← h]; exact ho
theorem tgOK_sp {f g : Nat → Int32} (h : sp_at f = sp_at g) {a : Int32} (ho : tgOK f a) : tgOK g a := by
  unfold tgOK at *
  rw [← h]; exact ho
theorem byF_fr {σ σ' : ev_M} (h : frV σ σ') (hf : byF (σ 31)) : byF (σ' 31) := fun i hi => by rw [h.2.2 i hi]; exact hf i hi
theorem rw_at_sp {f g : Nat → Int32} (h : sp_at f = sp_at g) (a : Int32) (x : rws) : rw_at f a x = rw_at g a x := by unfold rw_at; rw [h]
theorem rw_end_sp {f g : Nat → Int32} (h : sp_at f = sp_at g) (a : Int32) (x : rws) : rw_end f a x = rw_end g a x := by unfold rw_end; rw [h]
theorem rw_first_sp {f g : Nat → Int32} (h : sp_at f = sp_at g) (a d : Int32) (x : rws) : rw_first f a d x = rw_first g a d x := by unfold rw_first rw_end rw_at; rw [h]
def y_D_renewBlock : MethodName := ⟨RD, "renewBlock", "(I)V"⟩
def ws_D_renewBlock : List Cond := .code y_D_renewBlock prog_9_method_27_code 6 none :: evW
theorem d_D_renewBlock_0 : decode prog_9_method_27_code 0 = .ok (.aload_n 0, 1) := by decide +kernel
theorem d_D_renewBlock_1 : decode prog_9_method_27_code 1 = .ok (.getfield 38, 3) := by decide +kernel
theorem d_D_renewBlock_4 : decode prog_9_method_27_code 4 = .ok (.iload_n 1, 1) := by decide +kernel
theorem d_D_renewBlock_5 : decode prog_9_method_27_code 5 = .ok (.iaload, 1) := by decide +kernel
theorem d_D_renewBlock_6 : decode prog_9_method_27_code 6 = .ok (.istore_n 2, 1) := by decide +kernel
theorem d_D_renewBlock_7 : decode prog_9_method_27_code 7 = .ok (.aload_n 0, 1) := by decide +kernel
theorem d_D_renewBlock_8 : decode prog_9_method_27_code 8 = .ok (.getfield 137, 3) := by decide +kernel
theorem d_D_renewBlock_11 : decode prog_9_method_27_code 11 = .ok (.istore_n 3, 1) := by decide +kernel
theorem d_D_renewBlock_12 : decode prog_9_method_27_code 12 = .ok (.aload_n 0, 1) := by decide +kernel
theorem d_D_renewBlock_13 : decode prog_9_method_27_code 13 = .ok (.bipush 76, 2) := by decide +kernel
theorem d_D_renewBlock_15 : decode prog_9_method_27_code 15 = .ok (.invokevirtual 140, 3) := by decide +kernel
theorem d_D_renewBlock_18 : decode prog_9_method_27_code 18 = .ok (.aload_n 0, 1) := by decide +kernel
theorem d_D_renewBlock_19 : decode prog_9_method_27_code 19 = .ok (.iload_n 1, 1) := by decide +kernel
theorem d_D_renewBlock_20 : decode prog_9_method_27_code 20 = .ok (.invokevirtual 140, 3) := by decide +kernel
theorem d_D_renewBlock_23 : decode prog_9_method_27_code 23 = .ok (.aload_n 0, 1) := by decide +kernel
theorem d_D_renewBlock_24 : decode prog_9_method_27_code 24 = .ok (.getfield 41, 3) := by decide +kernel
theorem d_D_renewBlock_27 : decode prog_9_method_27_code 27 = .ok (.iload_n 1, 1) := by decide +kernel
theorem d_D_renewBlock_28 : decode prog_9_method_27_code 28 = .ok (.iaload, 1) := by decide +kernel
theorem d_D_renewBlock_29 : decode prog_9_method_27_code 29 = .ok (.iconst 1, 1) := by decide +kernel
theorem d_D_renewBlock_30 : decode prog_9_method_27_code 30 = .ok (.if_icmp .le 7, 3) := by decide +kernel
theorem d_D_renewBlock_33 : decode prog_9_method_27_code 33 = .ok (.iconst 2, 1) := by decide +kernel
theorem d_D_renewBlock_34 : decode prog_9_method_27_code 34 = .ok (.goto 4, 3) := by decide +kernel
theorem d_D_renewBlock_37 : decode prog_9_method_27_code 37 = .ok (.iconst 1, 1) := by decide +kernel
theorem d_D_renewBlock_38 : decode prog_9_method_27_code 38 = .ok (.istore 4, 2) := by decide +kernel
theorem d_D_renewBlock_40 : decode prog_9_method_27_code 40 = .ok (.iconst 0, 1) := by decide +kernel
theorem d_D_renewBlock_41 : decode prog_9_method_27_code 41 = .ok (.istore 5, 2) := by decide +kernel
theorem d_D_renewBlock_43 : decode prog_9_method_27_code 43 = .ok (.iload_n 2, 1) := by decide +kernel
theorem d_D_renewBlock_44 : decode prog_9_method_27_code 44 = .ok (.aload_n 0, 1) := by decide +kernel
theorem d_D_renewBlock_45 : decode prog_9_method_27_code 45 = .ok (.getfield 38, 3) := by decide +kernel
theorem d_D_renewBlock_48 : decode prog_9_method_27_code 48 = .ok (.iload_n 1, 1) := by decide +kernel
theorem d_D_renewBlock_49 : decode prog_9_method_27_code 49 = .ok (.iaload, 1) := by decide +kernel
theorem d_D_renewBlock_50 : decode prog_9_method_27_code 50 = .ok (.isub, 1) := by decide +kernel
theorem d_D_renewBlock_51 : decode prog_9_method_27_code 51 = .ok (.iload 4, 2) := by decide +kernel
theorem d_D_renewBlock_53 : decode prog_9_method_27_code 53 = .ok (.if_icmp .ge 27, 3) := by decide +kernel
theorem d_D_renewBlock_56 : decode prog_9_method_27_code 56 = .ok (.aload_n 0, 1) := by decide +kernel
theorem d_D_renewBlock_57 : decode prog_9_method_27_code 57 = .ok (.getfield 7, 3) := by decide +kernel
theorem d_D_renewBlock_60 : decode prog_9_method_27_code 60 = .ok (.iload_n 2, 1) := by decide +kernel
theorem d_D_renewBlock_61 : decode prog_9_method_27_code 61 = .ok (.iaload, 1) := by decide +kernel
theorem d_D_renewBlock_62 : decode prog_9_method_27_code 62 = .ok (.istore 5, 2) := by decide +kernel
theorem d_D_renewBlock_64 : decode prog_9_method_27_code 64 = .ok (.aload_n 0, 1) := by decide +kernel
theorem d_D_renewBlock_65 : decode prog_9_method_27_code 65 = .ok (.iload_n 2, 1) := by decide +kernel
theorem d_D_renewBlock_66 : decode prog_9_method_27_code 66 = .ok (.invokevirtual 146, 3) := by decide +kernel
theorem d_D_renewBlock_69 : decode prog_9_method_27_code 69 = .ok (.iload_n 2, 1) := by decide +kernel
theorem d_D_renewBlock_70 : decode prog_9_method_27_code 70 = .ok (.iload 5, 2) := by decide +kernel
theorem d_D_renewBlock_72 : decode prog_9_method_27_code 72 = .ok (.invokestatic 97, 3) := by decide +kernel
theorem d_D_renewBlock_75 : decode prog_9_method_27_code 75 = .ok (.iadd, 1) := by decide +kernel
theorem d_D_renewBlock_76 : decode prog_9_method_27_code 76 = .ok (.istore_n 2, 1) := by decide +kernel
theorem d_D_renewBlock_77 : decode prog_9_method_27_code 77 = .ok (.goto (-34), 3) := by decide +kernel
theorem d_D_renewBlock_80 : decode prog_9_method_27_code 80 = .ok (.iload 5, 2) := by decide +kernel
theorem d_D_renewBlock_82 : decode prog_9_method_27_code 82 = .ok (.invokestatic 124, 3) := by decide +kernel
theorem d_D_renewBlock_85 : decode prog_9_method_27_code 85 = .ok (.ifCond .ne 8, 3) := by decide +kernel
theorem d_D_renewBlock_88 : decode prog_9_method_27_code 88 = .ok (.aload_n 0, 1) := by decide +kernel
theorem d_D_renewBlock_89 : decode prog_9_method_27_code 89 = .ok (.iload_n 2, 1) := by decide +kernel
theorem d_D_renewBlock_90 : decode prog_9_method_27_code 90 = .ok (.invokevirtual 143, 3) := by decide +kernel
theorem d_D_renewBlock_93 : decode prog_9_method_27_code 93 = .ok (.iload 4, 2) := by decide +kernel
theorem d_D_renewBlock_95 : decode prog_9_method_27_code 95 = .ok (.iconst 2, 1) := by decide +kernel
theorem d_D_renewBlock_96 : decode prog_9_method_27_code 96 = .ok (.if_icmp .ne 45, 3) := by decide +kernel
theorem d_D_renewBlock_99 : decode prog_9_method_27_code 99 = .ok (.aload_n 0, 1) := by decide +kernel
theorem d_D_renewBlock_100 : decode prog_9_method_27_code 100 = .ok (.getfield 7, 3) := by decide +kernel
theorem d_D_renewBlock_103 : decode prog_9_method_27_code 103 = .ok (.sipush 256, 3) := by decide +kernel
theorem d_D_renewBlock_106 : decode prog_9_method_27_code 106 = .ok (.aload_n 0, 1) := by decide +kernel
theorem d_D_renewBlock_107 : decode prog_9_method_27_code 107 = .ok (.getfield 38, 3) := by decide +kernel
theorem d_D_renewBlock_110 : decode prog_9_method_27_code 110 = .ok (.iload_n 1, 1) := by decide +kernel
theorem d_D_renewBlock_111 : decode prog_9_method_27_code 111 = .ok (.iaload, 1) := by decide +kernel
theorem d_D_renewBlock_112 : decode prog_9_method_27_code 112 = .ok (.iadd, 1) := by decide +kernel
theorem d_D_renewBlock_113 : decode prog_9_method_27_code 113 = .ok (.bipush 69, 2) := by decide +kernel
theorem d_D_renewBlock_115 : decode prog_9_method_27_code 115 = .ok (.iastore, 1) := by decide +kernel
theorem d_D_renewBlock_116 : decode prog_9_method_27_code 116 = .ok (.aload_n 0, 1) := by decide +kernel
theorem d_D_renewBlock_117 : decode prog_9_method_27_code 117 = .ok (.getfield 7, 3) := by decide +kernel
theorem d_D_renewBlock_120 : decode prog_9_method_27_code 120 = .ok (.sipush 256, 3) := by decide +kernel
theorem d_D_renewBlock_123 : decode prog_9_method_27_code 123 = .ok (.aload_n 0, 1) := by decide +kernel
theorem d_D_renewBlock_124 : decode prog_9_method_27_code 124 = .ok (.getfield 38, 3) := by decide +kernel
theorem d_D_renewBlock_127 : decode prog_9_method_27_code 127 = .ok (.iload_n 1, 1) := by decide +kernel
theorem d_D_renewBlock_128 : decode prog_9_method_27_code 128 = .ok (.iaload, 1) := by decide +kernel
theorem d_D_renewBlock_129 : decode prog_9_method_27_code 129 = .ok (.iadd, 1) := by decide +kernel
theorem d_D_renewBlock_130 : decode prog_9_method_27_code 130 = .ok (.iconst 1, 1) := by decide +kernel
theorem d_D_renewBlock_131 : decode prog_9_method_27_code 131 = .ok (.iadd, 1) := by decide +kernel
theorem d_D_renewBlock_132 : decode prog_9_method_27_code 132 = .ok (.iload_n 3, 1) := by decide +kernel
theorem d_D_renewBlock_133 : decode prog_9_method_27_code 133 = .ok (.sipush 255, 3) := by decide +kernel
theorem d_D_renewBlock_136 : decode prog_9_method_27_code 136 = .ok (.iand, 1) := by decide +kernel
theorem d_D_renewBlock_137 : decode prog_9_method_27_code 137 = .ok (.iastore, 1) := by decide +kernel
theorem d_D_renewBlock_138 : decode prog_9_method_27_code 138 = .ok (.goto 31, 3) := by decide +kernel
theorem d_D_renewBlock_141 : decode prog_9_method_27_code 141 = .ok (.aload_n 0, 1) := by decide +kernel
theorem d_D_renewBlock_142 : decode prog_9_method_27_code 142 = .ok (.getfield 7, 3) := by decide +kernel
theorem d_D_renewBlock_145 : decode prog_9_method_27_code 145 = .ok (.sipush 256, 3) := by decide +kernel
theorem d_D_renewBlock_148 : decode prog_9_method_27_code 148 = .ok (.aload_n 0, 1) := by decide +kernel
theorem d_D_renewBlock_149 : decode prog_9_method_27_code 149 = .ok (.getfield 38, 3) := by decide +kernel
theorem d_D_renewBlock_152 : decode prog_9_method_27_code 152 = .ok (.iload_n 1, 1) := by decide +kernel
theorem d_D_renewBlock_153 : decode prog_9_method_27_code 153 = .ok (.iaload, 1) := by decide +kernel
theorem d_D_renewBlock_154 : decode prog_9_method_27_code 154 = .ok (.iadd, 1) := by decide +kernel
theorem d_D_renewBlock_155 : decode prog_9_method_27_code 155 = .ok (.iconst 2, 1) := by decide +kernel
theorem d_D_renewBlock_156 : decode prog_9_method_27_code 156 = .ok (.iastore, 1) := by decide +kernel
theorem d_D_renewBlock_157 : decode prog_9_method_27_code 157 = .ok (.aload_n 0, 1) := by decide +kernel
theorem d_D_renewBlock_158 : decode prog_9_method_27_code 158 = .ok (.getfield 13, 3) := by decide +kernel
theorem d_D_renewBlock_161 : decode prog_9_method_27_code 161 = .ok (.aload_n 0, 1) := by decide +kernel
theorem d_D_renewBlock_162 : decode prog_9_method_27_code 162 = .ok (.getfield 38, 3) := by decide +kernel
theorem d_D_renewBlock_165 : decode prog_9_method_27_code 165 = .ok (.iload_n 1, 1) := by decide +kernel
theorem d_D_renewBlock_166 : decode prog_9_method_27_code 166 = .ok (.iaload, 1) := by decide +kernel
theorem d_D_renewBlock_167 : decode prog_9_method_27_code 167 = .ok (.iload_n 3, 1) := by decide +kernel
theorem d_D_renewBlock_168 : decode prog_9_method_27_code 168 = .ok (.iastore, 1) := by decide +kernel
theorem d_D_renewBlock_169 : decode prog_9_method_27_code 169 = .ok (.return_, 1) := by decide +kernel
def I_D_renewBlock (P : Unit → ev_M → ev_L → Prop) : List (Nat × ev_T) := [(0, tt_al 0 1),
  (1, tt_gf evLY 7 16 4),
  (4, tt_il 1 5),
  (5, tt_ia evLY 6),
  (6, tt_is 2 7),
  (7, tt_al 0 8),
  (8, tt_gf evLY 7 19 11),
  (11, tt_is 3 12),
  (12, tt_al 0 13),
  (13, tt_k 76 15),
  (15, tt_cV evLY 7 1 ev_n pre_D_emit post_D_emit 18),
  (18, tt_al 0 19),
  (19, tt_il 1 20),
  (20, tt_cV evLY 7 1 ev_n pre_D_emit post_D_emit 23),
  (23, tt_al 0 24),
  (24, tt_gf evLY 7 17 27),
  (27, tt_il 1 28),
  (28, tt_ia evLY 29),
  (29, tt_k 1 30),
  (30, tt_icle 37 33),
  (33, tt_k 2 34),
  (34, tt_go 38),
  (37, tt_k 1 38),
  (38, tt_is 4 40),
  (40, tt_k 0 41),
  (41, tt_is 5 43),
  (43, tt_il 2 44),
  (44, tt_al 0 45),
  (45, tt_gf evLY 7 16 48),
  (48, tt_il 1 49),
  (49, tt_ia evLY 50),
  (50, tt_isub 51),
  (51, tt_il 4 53),
  (53, tt_icge 80 56),
  (56, tt_al 0 57),
  (57, tt_gf evLY 7 1 60),
  (60, tt_il 2 61),
  (61, tt_ia evLY 62),
  (62, tt_is 5 64),
  (64, tt_al 0 65),
  (65, tt_il 2 66),
  (66, tt_cV evLY 7 1 ev_n pre_D_renew post_D_renew 69),
  (69, tt_il 2 70),
  (70, tt_il 5 72),
  (72, tt_cS 1 ev_i pre_D_sizeOf post_D_sizeOf 75),
  (75, tt_iadd 76),
  (76, tt_is 2 77),
  (77, tt_go 43),
  (80, tt_il 5 82),
  (82, tt_cS 1 ev_b pre_D_ends post_D_ends 85),
  (85, tt_ifne 93 88),
  (88, tt_al 0 89),
  (89, tt_il 2 90),
  (90, tt_cV evLY 7 1 ev_n pre_D_jumpTo post_D_jumpTo 93),
  (93, tt_il 4 95),
  (95, tt_k 2 96),
  (96, tt_icne 141 99),
  (99, tt_al 0 100),
  (100, tt_gf evLY 7 1 103),
  (103, tt_k 256 106),
  (106, tt_al 0 107),
  (107, tt_gf evLY 7 16 110),
  (110, tt_il 1 111),
  (111, tt_ia evLY 112),
  (112, tt_iadd 113),
  (113, tt_k 69 115),
  (115, tt_ias evLY 116),
  (116, tt_al 0 117),
  (117, tt_gf evLY 7 1 120),
  (120, tt_k 256 123),
  (123, tt_al 0 124),
  (124, tt_gf evLY 7 16 127),
  (127, tt_il 1 128),
  (128, tt_ia evLY 129),
  (129, tt_iadd 130),
  (130, tt_k 1 131),
  (131, tt_iadd 132),
  (132, tt_il 3 133),
  (133, tt_k 255 136),
  (136, tt_iand 137),
  (137, tt_ias evLY 138),
  (138, tt_go 169),
  (141, tt_al 0 142),
  (142, tt_gf evLY 7 1 145),
  (145, tt_k 256 148),
  (148, tt_al 0 149),
  (149, tt_gf evLY 7 16 152),
  (152, tt_il 1 153),
  (153, tt_ia evLY 154),
  (154, tt_iadd 155),
  (155, tt_k 2 156),
  (156, tt_ias evLY 157),
  (157, tt_al 0 158),
  (158, tt_gf evLY 7 2 161),
  (161, tt_al 0 162),
  (162, tt_gf evLY 7 16 165),
  (165, tt_il 1 166),
  (166, tt_ia evLY 167),
  (167, tt_il 3 168),
  (168, tt_ias evLY 169),
  (169, tt_rv P)]
abbrev rm_D_renewBlock : Room := { frames := 3, cells := 0, slots := 0, locals := 96 }
set_option maxRecDepth 20000 in
theorem ok_D_renewBlock (l : Launch) (J : ev_K) (P : Unit → ev_M → ev_L → Prop) (X : ev_X l rm_D_renewBlock evLY evCl ws_D_renewBlock prog_9_method_27_code 6 y_D_renewBlock.cls J) (Z : ev_Z J prog_9_method_27_code .return_ ev_n P) : ev_oks J (I_D_renewBlock P) :=
  ⟨qq_aln X 0 rfl d_D_renewBlock_0,
  qq_gf X 7 16 rfl (fun w h => List.mem_cons_of_mem _ (inE_D w h)) (by decide) (List.mem_cons_of_mem _ mw_770) d_D_renewBlock_1,
  qq_iln X 1 rfl d_D_renewBlock_4,
  qq_ia X d_D_renewBlock_5,
  qq_isn X 2 rfl (by decide) d_D_renewBlock_6,
  qq_aln X 0 rfl d_D_renewBlock_7,
  qq_gf X 7 19 rfl (fun w h => List.mem_cons_of_mem _ (inE_D w h)) (by decide) (List.mem_cons_of_mem _ mw_773) d_D_renewBlock_8,
  qq_isn X 3 rfl (by decide) d_D_renewBlock_11,
  qq_aln X 0 rfl d_D_renewBlock_12,
  qq_bp X 76 (by decide) d_D_renewBlock_13,
  qq_cV X 7 rfl (c_D_emit l) (fun hts => cwV 1 hts (evGV (mw_935) (mw_937) (mp_36) (mw_8) (mw_938)) rfl rfl rfl (by decide +kernel) ⟨Nat.le_of_ble_eq_true rfl, Nat.le_of_ble_eq_true rfl⟩) d_D_renewBlock_15,
  qq_aln X 0 rfl d_D_renewBlock_18,
  qq_iln X 1 rfl d_D_renewBlock_19,
  qq_cV X 7 rfl (c_D_emit l) (fun hts => cwV 1 hts (evGV (mw_935) (mw_937) (mp_36) (mw_8) (mw_938)) rfl rfl rfl (by decide +kernel) ⟨Nat.le_of_ble_eq_true rfl, Nat.le_of_ble_eq_true rfl⟩) d_D_renewBlock_20,
  qq_aln X 0 rfl d_D_renewBlock_23,
  qq_gf X 7 17 rfl (fun w h => List.mem_cons_of_mem _ (inE_D w h)) (by decide) (List.mem_cons_of_mem _ mw_771) d_D_renewBlock_24,
  qq_iln X 1 rfl d_D_renewBlock_27,
  qq_ia X d_D_renewBlock_28,
  qq_ic X 1 (by decide) d_D_renewBlock_29,
  qq_icle X 37 (by decide) d_D_renewBlock_30,
  qq_ic X 2 (by decide) d_D_renewBlock_33,
  qq_go X 38 (by decide) d_D_renewBlock_34,
  qq_ic X 1 (by decide) d_D_renewBlock_37,
  qq_is X 4 (by decide) d_D_renewBlock_38,
  qq_ic X 0 (by decide) d_D_renewBlock_40,
  qq_is X 5 (by decide) d_D_renewBlock_41,
  qq_iln X 2 rfl d_D_renewBlock_43,
  qq_aln X 0 rfl d_D_renewBlock_44,
  qq_gf X 7 16 rfl (fun w h => List.mem_cons_of_mem _ (inE_D w h)) (by decide) (List.mem_cons_of_mem _ mw_770) d_D_renewBlock_45,
  qq_iln X 1 rfl d_D_renewBlock_48,
  qq_ia X d_D_renewBlock_49,
  qq_isub X d_D_renewBlock_50,
  qq_il X 4 d_D_renewBlock_51,
  qq_icge X 80 (by decide) d_D_renewBlock_53,
  qq_aln X 0 rfl d_D_renewBlock_56,
  qq_gf X 7 1 rfl (fun w h => List.mem_cons_of_mem _ (inE_D w h)) (by decide) (List.mem_cons_of_mem _ mw_755) d_D_renewBlock_57,
  qq_iln X 2 rfl d_D_renewBlock_60,
  qq_ia X d_D_renewBlock_61,
  qq_is X 5 (by decide) d_D_renewBlock_62,
  qq_aln X 0 rfl d_D_renewBlock_64,
  qq_iln X 2 rfl d_D_renewBlock_65,
  qq_cV X 7 rfl (c_D_renew l) (fun hts => cwV 1 hts (evGV (mw_939) (mw_941) (mp_37) (mw_8) (mw_942)) rfl rfl rfl (by decide +kernel) ⟨Nat.le_of_ble_eq_true rfl, Nat.le_of_ble_eq_true rfl⟩) d_D_renewBlock_66,
  qq_iln X 2 rfl d_D_renewBlock_69,
  qq_il X 5 d_D_renewBlock_70,
  qq_cS X (c_D_sizeOf l) (fun hts => va_cwS 1 hts (evGS (mw_881) (mw_882) (mw_8) (mw_883)) rfl rfl rfl (by decide +kernel) ⟨Nat.le_of_ble_eq_true rfl, Nat.le_of_ble_eq_true rfl⟩) d_D_renewBlock_72,
  qq_iadd X d_D_renewBlock_75,
  qq_isn X 2 rfl (by decide) d_D_renewBlock_76,
  qq_go X 43 (by decide) d_D_renewBlock_77,
  qq_il X 5 d_D_renewBlock_80,
  qq_cS X (c_D_ends l) (fun hts => va_cwS 1 hts (evGS (mw_916) (mw_917) (mw_8) (mw_918)) rfl rfl rfl (by decide +kernel) ⟨Nat.le_of_ble_eq_true rfl, Nat.le_of_ble_eq_true rfl⟩) d_D_renewBlock_82,
  qq_ifne X 93 (by decide) d_D_renewBlock_85,
  qq_aln X 0 rfl d_D_renewBlock_88,
  qq_iln X 2 rfl d_D_renewBlock_89,
  qq_cV X 7 rfl (c_D_jumpTo l) (fun hts => cwV 1 hts (evGV (mw_943) (mw_945) (mp_38) (mw_8) (mw_946)) rfl rfl rfl (by decide +kernel) ⟨Nat.le_of_ble_eq_true rfl, Nat.le_of_ble_eq_true rfl⟩) d_D_renewBlock_90,
  qq_il X 4 d_D_renewBlock_93,
  qq_ic X 2 (by decide) d_D_renewBlock_95,
  qq_icne X 141 (by decide) d_D_renewBlock_96,
  qq_aln X 0 rfl d_D_renewBlock_99,
  qq_gf X 7 1 rfl (fun w h => List.mem_cons_of_mem _ (inE_D w h)) (by decide) (List.mem_cons_of_mem _ mw_755) d_D_renewBlock_100,
  qq_sp X 256 (by decide) d_D_renewBlock_103,
  qq_aln X 0 rfl d_D_renewBlock_106,
  qq_gf X 7 16 rfl (fun w h => List.mem_cons_of_mem _ (inE_D w h)) (by decide) (List.mem_cons_of_mem _ mw_770) d_D_renewBlock_107,
  qq_iln X 1 rfl d_D_renewBlock_110,
  qq_ia X d_D_renewBlock_111,
  qq_iadd X d_D_renewBlock_112,
  qq_bp X 69 (by decide) d_D_renewBlock_113,
  qq_ias X d_D_renewBlock_115,
  qq_aln X 0 rfl d_D_renewBlock_116,
  qq_gf X 7 1 rfl (fun w h => List.mem_cons_of_mem _ (inE_D w h)) (by decide) (List.mem_cons_of_mem _ mw_755) d_D_renewBlock_117,
  qq_sp X 256 (by decide) d_D_renewBlock_120,
  qq_aln X 0 rfl d_D_renewBlock_123,
  qq_gf X 7 16 rfl (fun w h => List.mem_cons_of_mem _ (inE_D w h)) (by decide) (List.mem_cons_of_mem _ mw_770) d_D_renewBlock_124,
  qq_iln X 1 rfl d_D_renewBlock_127,
  qq_ia X d_D_renewBlock_128,
  qq_iadd X d_D_renewBlock_129,
  qq_ic X 1 (by decide) d_D_renewBlock_130,
  qq_iadd X d_D_renewBlock_131,
  qq_iln X 3 rfl d_D_renewBlock_132,
  qq_sp X 255 (by decide) d_D_renewBlock_133,
  qq_iand X d_D_renewBlock_136,
  qq_ias X d_D_renewBlock_137,
  qq_go X 169 (by decide) d_D_renewBlock_138,
  qq_aln X 0 rfl d_D_renewBlock_141,
  qq_gf X 7 1 rfl (fun w h => List.mem_cons_of_mem _ (inE_D w h)) (by decide) (List.mem_cons_of_mem _ mw_755) d_D_renewBlock_142,
  qq_sp X 256 (by decide) d_D_renewBlock_145,
  qq_aln X 0 rfl d_D_renewBlock_148,
  qq_gf X 7 16 rfl (fun w h => List.mem_cons_of_mem _ (inE_D w h)) (by decide) (List.mem_cons_of_mem _ mw_770) d_D_renewBlock_149,
  qq_iln X 1 rfl d_D_renewBlock_152,
  qq_ia X d_D_renewBlock_153,
  qq_iadd X d_D_renewBlock_154,
  qq_ic X 2 (by decide) d_D_renewBlock_155,
  qq_ias X d_D_renewBlock_156,
  qq_aln X 0 rfl d_D_renewBlock_157,
  qq_gf X 7 2 rfl (fun w h => List.mem_cons_of_mem _ (inE_D w h)) (by decide) (List.mem_cons_of_mem _ mw_756) d_D_renewBlock_158,
  qq_aln X 0 rfl d_D_renewBlock_161,
  qq_gf X 7 16 rfl (fun w h => List.mem_cons_of_mem _ (inE_D w h)) (by decide) (List.mem_cons_of_mem _ mw_770) d_D_renewBlock_162,
  qq_iln X 1 rfl d_D_renewBlock_165,
  qq_ia X d_D_renewBlock_166,
  qq_iln X 3 rfl d_D_renewBlock_167,
  qq_ias X d_D_renewBlock_168,
  qq_rv Z d_D_renewBlock_169, trivial⟩
def pre_D_renewBlock : List Value → ev_M → ev_L → Prop := fun as σ _ => ∃ k : Nat, as = [.ref 30, .int (nI k)] ∧ k < 96 ∧ byF (σ 31) ∧ vbD (σ 31) (σ 40 k) (σ 41 k) ∧ 96 ≤ (σ 30 19).toInt ∧ (σ 30 19).toInt ≤ 3000
def post_D_renewBlock : List Value → ev_M → ev_L → Unit → ev_M → ev_L → Prop := fun as σ τ _ σ' τ' => match as with
  | [_, .int k] => rvD σ' = rw_blk (σ 31) k (σ 40 k.toNatClampNeg) (σ 41 k.toNatClampNeg) (rvD σ) ∧ frV σ σ' ∧ τ' = τ
  | _ => False
def hkD (σ : ev_M) (τ : ev_L) (k : Nat) (nd : Int32) (σ9 : ev_M) (τ9 : ev_L) : Prop := (¬ nd = 2 → vp_in (nI k) 96 ∧ vp_in (256 + σ9 40 (nI k).toNatClampNeg) 512 ∧ vp_in (nI k) 96 ∧ vp_in (ev_u σ9 31 (256 + σ9 40 (nI k).toNatClampNeg).toNatClampNeg 2 40 (nI k).toNatClampNeg) 96 ∧ post_D_renewBlock [.ref 30, .int (nI k)] σ τ () (ev_u (ev_u σ9 31 (256 + σ9 40 (nI k).toNatClampNeg).toNatClampNeg 2) 32 (ev_u σ9 31 (256 + σ9 40 (nI k).toNatClampNeg).toNatClampNeg 2 40 (nI k).toNatClampNeg).toNatClampNeg (σ 30 19)) τ9) ∧ (nd = 2 → vp_in (nI k) 96 ∧ vp_in (256 + σ9 40 (nI k).toNatClampNeg) 512 ∧ vp_in (nI k) 96 ∧ vp_in (256 + ev_u σ9 31 (256 + σ9 40 (nI k).toNatClampNeg).toNatClampNeg 69 40 (nI k).toNatClampNeg + 1) 512 ∧ post_D_renewBlock [.ref 30, .int (nI k)] σ τ () (ev_u (ev_u σ9 31 (256 + σ9 40 (nI k).toNatClampNeg).toNatClampNeg 69) 31 (256 + ev_u σ9 31 (256 + σ9 40 (nI k).toNatClampNeg).toNatClampNeg 69 40 (nI k).toNatClampNeg + 1).toNatClampNeg (σ 30 19 &&& 255)) τ9)
theorem rvD_trap {σ : ev_M} {a v : Int32} (h0 : 0 ≤ a.toInt) (h1 : a.toInt < 96) : rvD (ev_u σ 32 a.toNatClampNeg v) = rw_trap a v (rvD σ) ∧ frV σ (ev_u σ 32 a.toNatClampNeg v) := by
  refine ⟨?_, fun q _ _ h => if_neg h, fun _ _ => rfl, fun _ _ => rfl⟩
  have c2 := i_cl (x := a) (by omega)
  have e : ntD (upd (σ 32) a.toNatClampNeg v) = upd (ntD (σ 32)) a.toNatClampNeg v := by
    funext j
    unfold ntD upd
    by_cases hj : j = a.toNatClampNeg
    · have : j < 96 := by omega
      simp [hj]
      omega
    · simp [hj]
  have e2 : rw_trap a v (rvD σ) = ((rvD σ).1, (if 0 ≤ a ∧ a < 96 then upd (rvD σ).2.1 a.toNatClampNeg v else (rvD σ).2.1), (rvD σ).2.2) := rfl
  rw [e2, if_pos ⟨Int32.le_iff_toInt_le.mpr h0, Int32.lt_iff_toInt_lt.mpr h1⟩]
  show (_, ntD (upd (σ 32) a.toNatClampNeg v), _) = (_, upd (ntD (σ 32)) a.toNatClampNeg v, _)
  rw [e]
  rfl
theorem rw_put_mask (a v : Int32) (x : rws) : rw_put a (v &&& 255) x = rw_put a v x := by
  obtain ⟨g, T, e⟩ := x
  unfold rw_put
  have hx : v &&& 255 &&& 255 = v &&& 255 := by rw [Int32.and_assoc]; rfl
  simp only [hx]
set_option maxHeartbeats 4000000 in
set_option maxRecDepth 100000 in
theorem hook_D {σ : ev_M} {τ : ev_L} {k : Nat} (hk : k < 96) (b0 : 0 ≤ (σ 40 k).toInt) (b1 : (σ 40 k).toInt < 96) : ∀ (nd : Int32) (σ9 : ev_M) (τ9 : ev_L), frV σ σ9 → τ9 = τ → (nd = 1 ∧ (σ 41 k).toInt = 1 ∨ nd = 2 ∧ 2 ≤ (σ 41 k).toInt) → rw_blk (σ 31) (nI k) (σ 40 k) (σ 41 k) (rvD σ) = rw_hook (σ 40 k) (σ 41 k) (σ 30 19) (rvD σ9) → hkD σ τ k nd σ9 τ9 := by
  rintro nd σ9 τ9 hfr rfl hnd hv
  unfold hkD
  have hci : (nI k).toNatClampNeg = k := nI_clamp (by omega)
  have hvk : vp_in (nI k) 96 := vp_in_nI hk (by omega)
  have e40 : σ9 40 = σ 40 := hfr.1 40 (by decide) (by decide) (by decide)
  have hh : ∀ x : Int32, ev_u σ9 31 (256 + σ 40 k).toNatClampNeg x 40 k = σ 40 k := by
    intro x
    have : ∀ (j : Nat), ev_u σ9 31 j x 40 = σ9 40 := fun j => rfl
    rw [this, e40]
  have hd1 : (σ 40 k + 1).toInt = (σ 40 k).toInt + 1 := i_add (by omega) (by omega) (by decide) (by decide)
  have ea : ((256 : Int32) + σ 40 k).toInt = 256 + (σ 40 k).toInt := i_add (by decide) (by decide) (by omega) (by omega)
  have eb : ((256 : Int32) + σ 40 k + 1).toInt = 256 + (σ 40 k).toInt + 1 := by
    have h1' : (1 : Int32).toInt = 1 := rfl
    rw [i_add (by omega) (by omega) (by decide) (by decide), ea, h1']
  have hv1 : vp_in (256 + σ 40 k) 512 := by rw [vp_in_iff]; omega
  have hv2 : vp_in (256 + σ 40 k + 1) 512 := by rw [vp_in_iff]; omega
  have hv3 : vp_in (σ 40 k) 96 := by rw [vp_in_iff]; omega
  have h2' : (2 : Int32).toInt = 2 := rfl
  have P : ∀ σ' : ev_M, rvD σ' = rw_hook (σ 40 k) (σ 41 k) (σ 30 19) (rvD σ9) → frV σ σ' → post_D_renewBlock [.ref 30, .int (nI k)] σ τ9 () σ' τ9 := by
    intro σ' h1 h2
    have h3 : rvD σ' = rw_blk (σ 31) (nI k) (σ 40 (nI k).toNatClampNeg) (σ 41 (nI k).toNatClampNeg) (rvD σ) := by rw [hci, hv]; exact h1
    exact ⟨h3, h2, rfl⟩
  obtain ⟨p1, p2⟩ := rvD_put (σ := σ9) (a := σ 40 k) (v := 2) b0 (by omega) (by decide) (by decide)
  obtain ⟨p3, p4⟩ := rvD_put (σ := σ9) (a := σ 40 k) (v := 69) b0 (by omega) (by decide) (by decide)
  have hm : σ 30 19 &&& 255 = nI ((σ 30 19).toBitVec.toNat % 2 ^ 8) := pk_and _ 8 rfl
  have hml : (σ 30 19).toBitVec.toNat % 2 ^ 8 < 256 := Nat.mod_lt _ (by decide)
  have hmi : (σ 30 19 &&& 255).toInt = ((σ 30 19).toBitVec.toNat % 2 ^ 8 : Nat) := by rw [hm]; exact nI_toInt (by omega)
  rw [hci, e40, hh, hh]
  refine ⟨fun q => ?_, fun q => ?_⟩
  · obtain ⟨rfl, hs⟩ := hnd.resolve_right (fun w => q w.1)
    have hlt : σ 41 k < 2 := by rw [Int32.lt_iff_toInt_lt]; omega
    have hr : rw_hook (σ 40 k) (σ 41 k) (σ 30 19) (rvD σ9) = rw_trap (σ 40 k) (σ 30 19) (rw_put (σ 40 k) 2 (rvD σ9)) := if_pos hlt
    generalize ev_u σ9 31 (256 + σ 40 k).toNatClampNeg 2 = σA at p1 p2 ⊢
    obtain ⟨p5, p6⟩ := rvD_trap (σ := σA) (a := σ 40 k) (v := σ 30 19) b0 b1
    exact ⟨hvk, hv1, hvk, hv3, P _ (by rw [p5, p1, hr]) (frV_tr hfr (frV_tr p2 p6))⟩
  · obtain ⟨rfl, hs⟩ := hnd.resolve_left (fun w => absurd (w.1.symm.trans q) (by decide))
    have hnlt : ¬ σ 41 k < 2 := by rw [Int32.lt_iff_toInt_lt]; omega
    have hr : rw_hook (σ 40 k) (σ 41 k) (σ 30 19) (rvD σ9) = rw_put (σ 40 k + 1) (σ 30 19) (rw_put (σ 40 k) 69 (rvD σ9)) := if_neg hnlt
    generalize ev_u σ9 31 (256 + σ 40 k).toNatClampNeg 69 = σA at p3 p4 ⊢
    obtain ⟨p5, p6⟩ := rvD_put (σ := σA) (a := σ 40 k + 1) (v := σ 30 19 &&& 255) (by omega) (by omega) (by omega) (by omega)
    rw [← Int32.add_assoc] at p5 p6
    exact ⟨hvk, hv1, hvk, hv2, P _ (by rw [p5, p3, rw_put_mask, hr]) (frV_tr hfr (frV_tr p4 p6))⟩
set_option maxHeartbeats 4000000 in
set_option maxRecDepth 100000 in
theorem c_D_renewBlock (l : Launch) : ev_C ev_n l y_D_renewBlock ws_D_renewBlock rm_D_renewBlock evLY evCl pre_D_renewBlock post_D_renewBlock := by
  refine ev_meth0 (by decide) rfl ev_rop_v ?_ I_D_renewBlock (ok_D_renewBlock l) 200 ?_
  · rintro _ σ τ ⟨k, rfl, h⟩
    exact Nat.le_of_ble_eq_true rfl
  · rintro _ σ τ ⟨k, rfl, hk, hf, ⟨⟨b0, b1, b2, b3, b4, b5⟩, ht1, ht2⟩, e0, e1⟩
    have hci : (nI k).toNatClampNeg = k := nI_clamp (by omega)
    have hki : (nI k).toInt = k := nI_toInt (by omega)
    have hvk : vp_in (nI k) 96 := vp_in_nI hk (by omega)
    have h1' : (1 : Int32).toInt = 1 := rfl
    have h2' : (2 : Int32).toInt = 2 := rfl
    have hd1 : (σ 40 k + 1).toInt = (σ 40 k).toInt + 1 := i_add (by omega) (by omega) (by decide) (by decide)
    -- the hook
    have hook := hook_D (σ := σ) (τ := τ) hk b0 b1
    have hl1 := len_cases (sp_kind (sp_at (σ 31) (σ 40 k)))
    have hop := sp_at_by hf (σ 40 k)
    obtain ⟨f1, f2, f3, f4, f5, f6, f7⟩ := opF hop.1 hop.2 b4.2.2.1
    have sub : ∀ x : Int32, σ 40 k + x - σ 40 k = x := fun x => by rw [Int32.add_comm, Int32.add_sub_cancel]
    -- behind the loop
    have tail : ∀ (nd : Int32) (σ3 : ev_M) (τ3 : ev_L) (a : Int32), frV σ σ3 → τ3 = τ → 0 ≤ (σ3 30 19).toInt → (σ3 30 19).toInt ≤ 50000 → 0 ≤ a.toInt → a.toInt < 97 → ¬ sp_kind (sp_at (σ 31) a) = -1 → (nd = 1 ∧ (σ 41 k).toInt = 1 ∨ nd = 2 ∧ 2 ≤ (σ 41 k).toInt) → rw_blk (σ 31) (nI k) (σ 40 k) (σ 41 k) (rvD σ) = rw_hook (σ 40 k) (σ 41 k) (σ 30 19) (rw_end (σ 31) a (rvD σ3)) → pre_D_ends [.int (sp_at (σ 31) a)] σ3 τ3 ∧ ∀ (v : Bool) (σ4 : ev_M) (τ4 : ev_L), post_D_ends [.int (sp_at (σ 31) a)] σ3 τ3 v σ4 τ4 → (¬ (cond v 1 0 : Int32) = 0 → hkD σ τ k nd σ4 τ4) ∧ ((cond v 1 0 : Int32) = 0 → pre_D_jumpTo [.ref 30, .int (a + sp_len (sp_kind (sp_at (σ 31) a)))] σ4 τ4 ∧ ∀ (u : Unit) (σ5 : ev_M) (τ5 : ev_L), post_D_jumpTo [.ref 30, .int (a + sp_len (sp_kind (sp_at (σ 31) a)))] σ4 τ4 u σ5 τ5 → hkD σ τ k nd σ5 τ5) := by
      rintro nd σ3 τ3 a hfr rfl g0 g1 a0 a1 hka hnd hv
      have hopa := sp_at_by hf a
      obtain ⟨_, _, _, _, w5, _, _⟩ := opF hopa.1 hopa.2 hka
      have hl := sp_len_3 (sp_kind (sp_at (σ 31) a))
      have ea : (a + sp_len (sp_kind (sp_at (σ 31) a))).toInt = a.toInt + (sp_len (sp_kind (sp_at (σ 31) a))).toInt := i_add (by omega) (by omega) (by omega) (by omega)
      refine ⟨⟨_, rfl⟩, ?_⟩
      rintro _ _ _ ⟨rfl, rfl, rfl⟩
      refine ⟨fun h => ?_, fun h => ⟨⟨_, rfl, by omega, by omega, g0, by omega⟩, ?_⟩⟩
      · have h2 := bnz h
        rw [w5] at h2
        exact hook nd _ _ hfr rfl hnd (by rw [hv, show rw_end (σ 31) a (rvD _) = _ from if_pos h2])
      · rintro _ σ5 τ5 ⟨z1, z2, z3, rfl⟩
        have h2 := bz h
        rw [w5] at h2
        refine hook nd _ _ (frV_tr hfr z2) rfl hnd ?_
        rw [hv, z1, show rw_end (σ 31) a (rvD _) = _ from if_neg (by rw [h2]; decide)]
    refine ⟨hvk, ?_⟩
    rw [hci]
    refine ⟨⟨_, rfl, by decide, by decide, by omega, by omega⟩, ?_⟩
    rintro _ σ1 τ1 ⟨w1, q1, x1, rfl⟩
    refine ⟨⟨_, rfl, by omega, by omega, by omega, by omega⟩, ?_⟩
    rintro _ σ2 τ2 ⟨w2, q2, x2, rfl⟩
    have q12 := frV_tr q1 q2
    have e41 : σ2 41 = σ 41 := q12.1 41 (by decide) (by decide) (by decide)
    have e40 : σ2 40 = σ 40 := q12.1 40 (by decide) (by decide) (by decide)
    have es := frV_sp q12
    have w12 : rvD σ2 = rw_app (nI k) (rw_app 76 (rvD σ)) := by rw [w2, w1]
    -- one instruction
    have one : ∀ (τ0 : ev_L) (σ3 : ev_M) (a : Int32), frV σ σ3 → 0 ≤ a.toInt → a.toInt < 96 → sp_okR (σ 31) a 96 → tgOK (σ 31) a → 0 ≤ (σ3 30 19).toInt → (σ3 30 19).toInt ≤ 50000 → vp_in a 512 ∧ σ3 31 a.toNatClampNeg = sp_at (σ 31) a ∧ pre_D_renew [.ref 30, .int a] σ3 τ0 := by
      intro τ0 σ3 a hfr a0 a1 hok htg g0 g1
      obtain ⟨v, mm⟩ := m_at (σ := σ3) (a := a) a0 (by omega)
      have es3 := frV_sp hfr
      exact ⟨v, by rw [mm, es3], ⟨_, rfl, a0, a1, byF_fr hfr hf, okR_sp es3.symm hok, tgOK_sp es3.symm htg, g0, g1⟩⟩
    obtain ⟨o1, o2, o3⟩ := one τ2 σ2 (σ 40 k) q12 b0 b1 b4 ht1 (by omega) (by omega)
    refine ⟨hvk, ?_⟩
    rw [hci, e41]
    refine br_c (fun hs => ?_) (fun hs => ?_)
    · -- one byte is needed
      have hs1 : (σ 41 k).toInt = 1 := by rw [Int32.le_iff_toInt_le] at hs; omega
      refine ⟨hvk, ?_⟩
      rw [hci, e40]
      refine br_f (show ¬ (1 : Int32) ≤ σ 40 k - σ 40 k by rw [Int32.sub_self]; decide) ?_
      refine ⟨o1, ?_⟩
      rw [o2]
      refine ⟨o3, ?_⟩
      rintro _ σ3 τ3 ⟨w3, q3, x3, x3', rfl⟩
      have q123 := frV_tr q12 q3
      have e40' : σ3 40 = σ 40 := q123.1 40 (by decide) (by decide) (by decide)
      refine ⟨⟨_, rfl⟩, ?_⟩
      rintro _ σ3 τ ⟨rfl, rfl, rfl⟩
      rw [f4]
      refine ⟨hvk, ?_⟩
      rw [hci, e40']
      refine br_t (show (1 : Int32) ≤ σ 40 k + sp_len (sp_kind (sp_at (σ 31) (σ 40 k))) - σ 40 k by rw [sub]; rcases hl1 with h | h | h <;> rw [h] <;> decide) ?_
      refine tail 1 _ _ (σ 40 k) q123 rfl (by omega) (by omega) b0 (by omega) b4.2.2.1 (Or.inl ⟨rfl, hs1⟩) ?_
      have hz : (if (2 : Int32) < σ 41 k then (2 : Int32) else σ 41 k) = 1 := by
        rw [if_neg (by rw [Int32.lt_iff_toInt_lt]; omega)]
        exact Int32.toInt_inj.mp hs1
      have hE : rw_first (σ 31) (σ 40 k) 1 (rw_app (nI k) (rw_app 76 (rvD σ))) = rw_end (σ 31) (σ 40 k) (rvD σ3) := by
        rw [w3, rw_at_sp es, w12]
        exact if_neg fun q => absurd q.1 (by decide)
      unfold rw_blk
      rw [hz, show (rvD σ).2.2 = σ 30 19 from rfl, hE]
    · -- two
      have hs2 : 2 ≤ (σ 41 k).toInt := by rw [Int32.le_iff_toInt_le] at hs; omega
      have hz : (if (2 : Int32) < σ 41 k then (2 : Int32) else σ 41 k) = 2 := by
        by_cases hq : (2 : Int32) < σ 41 k
        · rw [if_pos hq]
        · rw [if_neg hq]
          rw [Int32.lt_iff_toInt_lt] at hq
          exact Int32.toInt_inj.mp (by omega)
      refine ⟨hvk, ?_⟩
      rw [hci, e40]
      refine br_f (show ¬ (2 : Int32) ≤ σ 40 k - σ 40 k by rw [Int32.sub_self]; decide) ?_
      refine ⟨o1, ?_⟩
      rw [o2]
      refine ⟨o3, ?_⟩
      rintro _ σ3 τ3 ⟨w3, q3, x3, x3', rfl⟩
      have q123 := frV_tr q12 q3
      have e40' : σ3 40 = σ 40 := q123.1 40 (by decide) (by decide) (by decide)
      refine ⟨⟨_, rfl⟩, ?_⟩
      rintro _ σ3 τ ⟨rfl, rfl, rfl⟩
      rw [f4]
      refine ⟨hvk, ?_⟩
      rw [hci, e40']
      have fin : ¬ sp_len (sp_kind (sp_at (σ 31) (σ 40 k))) = 1 → rw_blk (σ 31) (nI k) (σ 40 k) (σ 41 k) (rvD σ) = rw_hook (σ 40 k) (σ 41 k) (σ 30 19) (rw_end (σ 31) (σ 40 k) (rvD σ3)) := by
        intro hne
        have hE : rw_first (σ 31) (σ 40 k) 2 (rw_app (nI k) (rw_app 76 (rvD σ))) = rw_end (σ 31) (σ 40 k) (rvD σ3) := by
          rw [w3, rw_at_sp es, w12]
          exact if_neg fun q => hne q.2
        unfold rw_blk
        rw [hz, show (rvD σ).2.2 = σ 30 19 from rfl, hE]
      rcases hl1 with hl | hl | hl
      · have o := one τ σ3 (σ 40 k + 1) q123 (by omega) (by have := b5 hs2 hl; have h3 := this.2.1; rw [Int32.lt_iff_toInt_lt] at h3; exact h3) (b5 hs2 hl) (ht2 hs2 hl) (by omega) (by omega)
        obtain ⟨o4, o5, o6⟩ := o
        have hop2 := sp_at_by hf (σ 40 k + 1)
        obtain ⟨_, _, _, y4, _, _, _⟩ := opF hop2.1 hop2.2 (b5 hs2 hl).2.2.1
        have hl2 := len_cases (sp_kind (sp_at (σ 31) (σ 40 k + 1)))
        have hlt : (σ 40 k + 1).toInt < 96 := by have h3 := (b5 hs2 hl).2.1; rw [Int32.lt_iff_toInt_lt] at h3; exact h3
        refine br_f (show ¬ (2 : Int32) ≤ σ 40 k + sp_len (sp_kind (sp_at (σ 31) (σ 40 k))) - σ 40 k by rw [sub, hl]; decide) ?_
        rw [hl]
        refine ⟨o4, ?_⟩
        rw [o5]
        refine ⟨o6, ?_⟩
        rintro _ σ4 τ4 ⟨w4, q4, x4, x4', rfl⟩
        have q14 := frV_tr q123 q4
        have e40'' : σ4 40 = σ 40 := q14.1 40 (by decide) (by decide) (by decide)
        refine ⟨⟨_, rfl⟩, ?_⟩
        rintro _ σ4 τ ⟨rfl, rfl, rfl⟩
        rw [y4]
        refine ⟨hvk, ?_⟩
        rw [hci, e40'']
        refine br_t (show (2 : Int32) ≤ σ 40 k + 1 + sp_len (sp_kind (sp_at (σ 31) (σ 40 k + 1))) - σ 40 k by rw [Int32.add_assoc, sub]; rcases hl2 with h | h | h <;> rw [h] <;> decide) ?_
        refine tail 2 _ _ (σ 40 k + 1) q14 rfl (by omega) (by omega) (by omega) (by omega) (b5 hs2 hl).2.2.1 (Or.inr ⟨rfl, hs2⟩) ?_
        have hE : rw_first (σ 31) (σ 40 k) 2 (rw_app (nI k) (rw_app 76 (rvD σ))) = rw_end (σ 31) (σ 40 k + 1) (rvD σ4) := by
          rw [w4, w3, rw_at_sp (frV_sp q123), rw_at_sp es, w12]
          exact if_pos ⟨rfl, hl⟩
        unfold rw_blk
        rw [hz, show (rvD σ).2.2 = σ 30 19 from rfl, hE]
      · refine br_t (show (2 : Int32) ≤ σ 40 k + sp_len (sp_kind (sp_at (σ 31) (σ 40 k))) - σ 40 k by rw [sub, hl]; decide) ?_
        exact tail 2 _ _ (σ 40 k) q123 rfl (by omega) (by omega) b0 (by omega) b4.2.2.1 (Or.inr ⟨rfl, hs2⟩) (fin (by rw [hl]; decide))
      · refine br_t (show (2 : Int32) ≤ σ 40 k + sp_len (sp_kind (sp_at (σ 31) (σ 40 k))) - σ 40 k by rw [sub, hl]; decide) ?_
        exact tail 2 _ _ (σ 40 k) q123 rfl (by omega) (by omega) b0 (by omega) b4.2.2.1 (Or.inr ⟨rfl, hs2⟩) (fin (by rw [hl]; decide))
