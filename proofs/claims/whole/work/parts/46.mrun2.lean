/-! the reference's run -/
def ms_wD (σ : ev_M) (x : mst) : mst := if ¬ σ 30 7 = 0 ∧ ms_pc x < 96 ∧ ¬ σ 37 (ms_pc x).toNatClampNeg = 0 then ms_cnt (sd_last (σ 40) (σ 41) (ms_pc x) (σ 30 15).toNatClampNeg) x else x
theorem ms_wD_R {σ : ev_M} {x : mst} (h : msR x) : msR (ms_wD σ x) := by
  unfold ms_wD
  split
  · exact ms_cnt_R h
  · exact h
/-- which of the reference's cells a run may change -/
def frR (σ σ' : ev_M) (τ τ' : ev_L) : Prop := (∀ k, ¬ k = 30 → (k < 43 ∨ 46 < k) → σ' k = σ k) ∧ (∀ j, ¬ j = 0 → (j < 22 ∨ 26 < j) → σ' 30 j = σ 30 j) ∧ ∀ k, ¬ k = 47 → τ' k = τ k
theorem frR_tr {σ σ1 σ2 : ev_M} {τ τ1 τ2 : ev_L} (h1 : frR σ σ1 τ τ1) (h2 : frR σ1 σ2 τ1 τ2) : frR σ σ2 τ τ2 := ⟨fun k hk hq => (h2.1 k hk hq).trans (h1.1 k hk hq), fun k hk hq => (h2.2.1 k hk hq).trans (h1.2.1 k hk hq), fun k hk => (h2.2.2 k hk).trans (h1.2.2 k hk)⟩
theorem frR_D {σ σ' : ev_M} {τ τ' : ev_L} (h : frD σ σ' τ τ') : frR σ σ' τ τ' := ⟨h.1, fun j _ hj => h.2.1 j hj, h.2.2⟩
theorem frR_0 {σ : ev_M} {τ : ev_L} (x : Int32) : frR σ (ev_u σ 30 0 x) τ τ := ⟨fun k hk _ => if_neg hk, fun j hj _ => by unfold ev_u ev_p upd; rw [if_pos rfl, if_neg hj], fun _ _ => rfl⟩
theorem frR_D0 {σ σ' : ev_M} {τ τ' : ev_L} (h : frD σ σ' τ τ') : σ' 30 0 = σ 30 0 := h.2.1 0 (by omega)
def sd_base (z : Int32) : Int32 := if z = 0 then 0 else 256
def sd_w (σ : ev_M) (z : Int32) : mst → mst := if z = 0 then ms_wD σ else fun x => x
theorem sd_w_R {σ : ev_M} {z : Int32} {x : mst} (h : msR x) : msR (sd_w σ z x) := by
  unfold sd_w
  split
  · exact ms_wD_R h
  · exact h
theorem ms_perf_dn {f : Nat → Int32} {tr : Int32 → Int32} {kd op n m bh : Int32} {r c s o : Nat → Int32} {t : Nat → Int64} {pc h sh dn : Int32} : (ms_perf f tr kd op n m bh (r, c, s, o, t, pc, h, sh, dn)).2.2.2.2.2.2.2.2.2 = dn := by
  suffices key : ∀ y : Int32 × mst, y = ms_perf f tr kd op n m bh (r, c, s, o, t, pc, h, sh, dn) → y.2.2.2.2.2.2.2.2.2 = dn from key _ rfl
  intro y hy
  by_cases k2 : kd = 2
  · have hy := hy.trans (if_pos k2)
    subst hy; rfl
  by_cases k3 : kd = 3
  · have hy := hy.trans ((if_neg k2).trans (if_pos k3))
    by_cases h7 : 0 < h
    · have hy := hy.trans (if_pos h7)
      subst hy; rfl
    · have hy := hy.trans (if_neg h7)
      subst hy; rfl
  by_cases k12 : kd = 12
  · have hy := hy.trans ((if_neg k2).trans ((if_neg k3).trans (if_pos k12)))
    by_cases h7 : sh < 40
    · have hy := hy.trans (if_pos h7)
      subst hy; rfl
    · have hy := hy.trans (if_neg h7)
      subst hy; rfl
  by_cases k60 : kd = 60
  · have hy := hy.trans ((if_neg k2).trans ((if_neg k3).trans ((if_neg k12).trans (if_pos k60))))
    subst hy; rfl
  by_cases k64 : kd = 64
  · have hy := hy.trans ((if_neg k2).trans ((if_neg k3).trans ((if_neg k12).trans ((if_neg k60).trans (if_pos k64)))))
    subst hy; rfl
  by_cases k68 : kd = 68
  · have hy := hy.trans ((if_neg k2).trans ((if_neg k3).trans ((if_neg k12).trans ((if_neg k60).trans ((if_neg k64).trans (if_pos k68))))))
    subst hy; rfl
  by_cases k69 : kd = 69
  · have hy := hy.trans ((if_neg k2).trans ((if_neg k3).trans ((if_neg k12).trans ((if_neg k60).trans ((if_neg k64).trans ((if_neg k68).trans (if_pos k69)))))))
    subst hy; rfl
  by_cases k70 : kd = 70
  · have hy := hy.trans ((if_neg k2).trans ((if_neg k3).trans ((if_neg k12).trans ((if_neg k60).trans ((if_neg k64).trans ((if_neg k68).trans ((if_neg k69).trans (if_pos k70))))))))
    by_cases h7 : h < 8
    · have hy := hy.trans (if_pos h7)
      subst hy; rfl
    · have hy := hy.trans (if_neg h7)
      subst hy; rfl
  by_cases k72 : kd = 72
  · have hy := hy.trans ((if_neg k2).trans ((if_neg k3).trans ((if_neg k12).trans ((if_neg k60).trans ((if_neg k64).trans ((if_neg k68).trans ((if_neg k69).trans ((if_neg k70).trans (if_pos k72)))))))))
    subst hy; rfl
  by_cases k77 : kd = 77
  · have hy := hy.trans ((if_neg k2).trans ((if_neg k3).trans ((if_neg k12).trans ((if_neg k60).trans ((if_neg k64).trans ((if_neg k68).trans ((if_neg k69).trans ((if_neg k70).trans ((if_neg k72).trans (if_pos k77))))))))))
    by_cases h7 : h < 8
    · have hy := hy.trans (if_pos h7)
      subst hy; rfl
    · have hy := hy.trans (if_neg h7)
      subst hy; rfl
  have hy := hy.trans ((if_neg k2).trans ((if_neg k3).trans ((if_neg k12).trans ((if_neg k60).trans ((if_neg k64).trans ((if_neg k68).trans ((if_neg k69).trans ((if_neg k70).trans ((if_neg k72).trans (if_neg k77))))))))))
  obtain ⟨r', c', t', e⟩ := ms_calc_sh kd op n r c s o t pc h sh dn
  rw [e] at hy
  subst hy; rfl
def y_D_run : MethodName := ⟨RD, "run", "(ZI)I"⟩
def ws_D_run : List Cond := .code y_D_run prog_9_method_39_code 4 (some .int) :: evW
theorem d_D_run_0 : decode prog_9_method_39_code 0 = .ok (.aload_n 0, 1) := by decide +kernel
theorem d_D_run_1 : decode prog_9_method_39_code 1 = .ok (.iconst 0, 1) := by decide +kernel
theorem d_D_run_2 : decode prog_9_method_39_code 2 = .ok (.putfield 63, 3) := by decide +kernel
theorem d_D_run_5 : decode prog_9_method_39_code 5 = .ok (.iload_n 2, 1) := by decide +kernel
theorem d_D_run_6 : decode prog_9_method_39_code 6 = .ok (.ifCond .lt 10, 3) := by decide +kernel
theorem d_D_run_9 : decode prog_9_method_39_code 9 = .ok (.iload_n 2, 1) := by decide +kernel
theorem d_D_run_10 : decode prog_9_method_39_code 10 = .ok (.sipush 3000, 3) := by decide +kernel
theorem d_D_run_13 : decode prog_9_method_39_code 13 = .ok (.if_icmp .le 9, 3) := by decide +kernel
theorem d_D_run_16 : decode prog_9_method_39_code 16 = .ok (.aload_n 0, 1) := by decide +kernel
theorem d_D_run_17 : decode prog_9_method_39_code 17 = .ok (.iconst 1, 1) := by decide +kernel
theorem d_D_run_18 : decode prog_9_method_39_code 18 = .ok (.invokevirtual 77, 3) := by decide +kernel
theorem d_D_run_21 : decode prog_9_method_39_code 21 = .ok (.ireturn, 1) := by decide +kernel
theorem d_D_run_22 : decode prog_9_method_39_code 22 = .ok (.iload_n 1, 1) := by decide +kernel
theorem d_D_run_23 : decode prog_9_method_39_code 23 = .ok (.ifCond .eq 16, 3) := by decide +kernel
theorem d_D_run_26 : decode prog_9_method_39_code 26 = .ok (.aload_n 0, 1) := by decide +kernel
theorem d_D_run_27 : decode prog_9_method_39_code 27 = .ok (.getfield 71, 3) := by decide +kernel
theorem d_D_run_30 : decode prog_9_method_39_code 30 = .ok (.ifCond .ne 9, 3) := by decide +kernel
theorem d_D_run_33 : decode prog_9_method_39_code 33 = .ok (.aload_n 0, 1) := by decide +kernel
theorem d_D_run_34 : decode prog_9_method_39_code 34 = .ok (.iconst 2, 1) := by decide +kernel
theorem d_D_run_35 : decode prog_9_method_39_code 35 = .ok (.invokevirtual 77, 3) := by decide +kernel
theorem d_D_run_38 : decode prog_9_method_39_code 38 = .ok (.ireturn, 1) := by decide +kernel
theorem d_D_run_39 : decode prog_9_method_39_code 39 = .ok (.aload_n 0, 1) := by decide +kernel
theorem d_D_run_40 : decode prog_9_method_39_code 40 = .ok (.invokevirtual 191, 3) := by decide +kernel
theorem d_D_run_43 : decode prog_9_method_39_code 43 = .ok (.iload_n 1, 1) := by decide +kernel
theorem d_D_run_44 : decode prog_9_method_39_code 44 = .ok (.ifCond .eq 9, 3) := by decide +kernel
theorem d_D_run_47 : decode prog_9_method_39_code 47 = .ok (.sipush 256, 3) := by decide +kernel
theorem d_D_run_50 : decode prog_9_method_39_code 50 = .ok (.goto 4, 3) := by decide +kernel
theorem d_D_run_53 : decode prog_9_method_39_code 53 = .ok (.iconst 0, 1) := by decide +kernel
theorem d_D_run_54 : decode prog_9_method_39_code 54 = .ok (.istore_n 3, 1) := by decide +kernel
theorem d_D_run_55 : decode prog_9_method_39_code 55 = .ok (.aload_n 0, 1) := by decide +kernel
theorem d_D_run_56 : decode prog_9_method_39_code 56 = .ok (.getfield 188, 3) := by decide +kernel
theorem d_D_run_59 : decode prog_9_method_39_code 59 = .ok (.iload_n 2, 1) := by decide +kernel
theorem d_D_run_60 : decode prog_9_method_39_code 60 = .ok (.if_icmp .ge 101, 3) := by decide +kernel
theorem d_D_run_63 : decode prog_9_method_39_code 63 = .ok (.aload_n 0, 1) := by decide +kernel
theorem d_D_run_64 : decode prog_9_method_39_code 64 = .ok (.getfield 152, 3) := by decide +kernel
theorem d_D_run_67 : decode prog_9_method_39_code 67 = .ok (.ifCond .ne 94, 3) := by decide +kernel
theorem d_D_run_70 : decode prog_9_method_39_code 70 = .ok (.aload_n 0, 1) := by decide +kernel
theorem d_D_run_71 : decode prog_9_method_39_code 71 = .ok (.getfield 155, 3) := by decide +kernel
theorem d_D_run_74 : decode prog_9_method_39_code 74 = .ok (.sipush 256, 3) := by decide +kernel
theorem d_D_run_77 : decode prog_9_method_39_code 77 = .ok (.if_icmp .lt 11, 3) := by decide +kernel
theorem d_D_run_80 : decode prog_9_method_39_code 80 = .ok (.aload_n 0, 1) := by decide +kernel
theorem d_D_run_81 : decode prog_9_method_39_code 81 = .ok (.iconst 2, 1) := by decide +kernel
theorem d_D_run_82 : decode prog_9_method_39_code 82 = .ok (.putfield 152, 3) := by decide +kernel
theorem d_D_run_85 : decode prog_9_method_39_code 85 = .ok (.goto (-30), 3) := by decide +kernel
theorem d_D_run_88 : decode prog_9_method_39_code 88 = .ok (.iload_n 1, 1) := by decide +kernel
theorem d_D_run_89 : decode prog_9_method_39_code 89 = .ok (.ifCond .ne 51, 3) := by decide +kernel
theorem d_D_run_92 : decode prog_9_method_39_code 92 = .ok (.aload_n 0, 1) := by decide +kernel
theorem d_D_run_93 : decode prog_9_method_39_code 93 = .ok (.getfield 67, 3) := by decide +kernel
theorem d_D_run_96 : decode prog_9_method_39_code 96 = .ok (.ifCond .eq 44, 3) := by decide +kernel
theorem d_D_run_99 : decode prog_9_method_39_code 99 = .ok (.aload_n 0, 1) := by decide +kernel
theorem d_D_run_100 : decode prog_9_method_39_code 100 = .ok (.getfield 155, 3) := by decide +kernel
theorem d_D_run_103 : decode prog_9_method_39_code 103 = .ok (.bipush 96, 2) := by decide +kernel
theorem d_D_run_105 : decode prog_9_method_39_code 105 = .ok (.if_icmp .ge 35, 3) := by decide +kernel
theorem d_D_run_108 : decode prog_9_method_39_code 108 = .ok (.aload_n 0, 1) := by decide +kernel
theorem d_D_run_109 : decode prog_9_method_39_code 109 = .ok (.getfield 29, 3) := by decide +kernel
theorem d_D_run_112 : decode prog_9_method_39_code 112 = .ok (.aload_n 0, 1) := by decide +kernel
theorem d_D_run_113 : decode prog_9_method_39_code 113 = .ok (.getfield 155, 3) := by decide +kernel
theorem d_D_run_116 : decode prog_9_method_39_code 116 = .ok (.baload, 1) := by decide +kernel
theorem d_D_run_117 : decode prog_9_method_39_code 117 = .ok (.ifCond .eq 23, 3) := by decide +kernel
theorem d_D_run_120 : decode prog_9_method_39_code 120 = .ok (.aload_n 0, 1) := by decide +kernel
theorem d_D_run_121 : decode prog_9_method_39_code 121 = .ok (.getfield 59, 3) := by decide +kernel
theorem d_D_run_124 : decode prog_9_method_39_code 124 = .ok (.aload_n 0, 1) := by decide +kernel
theorem d_D_run_125 : decode prog_9_method_39_code 125 = .ok (.aload_n 0, 1) := by decide +kernel
theorem d_D_run_126 : decode prog_9_method_39_code 126 = .ok (.getfield 155, 3) := by decide +kernel
theorem d_D_run_129 : decode prog_9_method_39_code 129 = .ok (.invokevirtual 194, 3) := by decide +kernel
theorem d_D_run_132 : decode prog_9_method_39_code 132 = .ok (.bipush 63, 2) := by decide +kernel
theorem d_D_run_134 : decode prog_9_method_39_code 134 = .ok (.iand, 1) := by decide +kernel
theorem d_D_run_135 : decode prog_9_method_39_code 135 = .ok (.dup2, 1) := by decide +kernel
theorem d_D_run_136 : decode prog_9_method_39_code 136 = .ok (.laload, 1) := by decide +kernel
theorem d_D_run_137 : decode prog_9_method_39_code 137 = .ok (.lconst 1, 1) := by decide +kernel
theorem d_D_run_138 : decode prog_9_method_39_code 138 = .ok (.ladd, 1) := by decide +kernel
theorem d_D_run_139 : decode prog_9_method_39_code 139 = .ok (.lastore, 1) := by decide +kernel
theorem d_D_run_140 : decode prog_9_method_39_code 140 = .ok (.aload_n 0, 1) := by decide +kernel
theorem d_D_run_141 : decode prog_9_method_39_code 141 = .ok (.iload_n 3, 1) := by decide +kernel
theorem d_D_run_142 : decode prog_9_method_39_code 142 = .ok (.invokevirtual 197, 3) := by decide +kernel
theorem d_D_run_145 : decode prog_9_method_39_code 145 = .ok (.ifCond .eq (-90), 3) := by decide +kernel
theorem d_D_run_148 : decode prog_9_method_39_code 148 = .ok (.aload_n 0, 1) := by decide +kernel
theorem d_D_run_149 : decode prog_9_method_39_code 149 = .ok (.dup, 1) := by decide +kernel
theorem d_D_run_150 : decode prog_9_method_39_code 150 = .ok (.getfield 188, 3) := by decide +kernel
theorem d_D_run_153 : decode prog_9_method_39_code 153 = .ok (.iconst 1, 1) := by decide +kernel
theorem d_D_run_154 : decode prog_9_method_39_code 154 = .ok (.iadd, 1) := by decide +kernel
theorem d_D_run_155 : decode prog_9_method_39_code 155 = .ok (.putfield 188, 3) := by decide +kernel
theorem d_D_run_158 : decode prog_9_method_39_code 158 = .ok (.goto (-103), 3) := by decide +kernel
theorem d_D_run_161 : decode prog_9_method_39_code 161 = .ok (.aload_n 0, 1) := by decide +kernel
theorem d_D_run_162 : decode prog_9_method_39_code 162 = .ok (.getfield 152, 3) := by decide +kernel
theorem d_D_run_165 : decode prog_9_method_39_code 165 = .ok (.ireturn, 1) := by decide +kernel
def I_D_run (P : Int32 → ev_M → ev_L → Prop) : List (Nat × ev_T) := [(0, tt_al 0 1),
  (1, tt_k 0 2),
  (2, tt_pf evLY 7 0 5),
  (5, tt_il 2 6),
  (6, tt_iflt 16 9),
  (9, tt_il 2 10),
  (10, tt_k 3000 13),
  (13, tt_icle 22 16),
  (16, tt_al 0 17),
  (17, tt_k 1 18),
  (18, tt_cV evLY 7 1 ev_i pre_D_fail post_D_fail 21),
  (21, tt_ri P),
  (22, tt_il 1 23),
  (23, tt_ifeq 39 26),
  (26, tt_al 0 27),
  (27, tt_gf evLY 7 8 30),
  (30, tt_ifne 39 33),
  (33, tt_al 0 34),
  (34, tt_k 2 35),
  (35, tt_cV evLY 7 1 ev_i pre_D_fail post_D_fail 38),
  (38, tt_ri P),
  (39, tt_al 0 40),
  (40, tt_cV evLY 7 0 ev_n pre_D_begin post_D_begin 43),
  (43, tt_il 1 44),
  (44, tt_ifeq 53 47),
  (47, tt_k 256 50),
  (50, tt_go 54),
  (53, tt_k 0 54),
  (54, tt_is 3 55),
  (55, tt_al 0 56),
  (56, tt_gf evLY 7 25 59),
  (59, tt_il 2 60),
  (60, tt_icge 161 63),
  (63, tt_al 0 64),
  (64, tt_gf evLY 7 26 67),
  (67, tt_ifne 161 70),
  (70, tt_al 0 71),
  (71, tt_gf evLY 7 22 74),
  (74, tt_k 256 77),
  (77, tt_iclt 88 80),
  (80, tt_al 0 81),
  (81, tt_k 2 82),
  (82, tt_pf evLY 7 26 85),
  (85, tt_go 55),
  (88, tt_il 1 89),
  (89, tt_ifne 140 92),
  (92, tt_al 0 93),
  (93, tt_gf evLY 7 7 96),
  (96, tt_ifeq 140 99),
  (99, tt_al 0 100),
  (100, tt_gf evLY 7 22 103),
  (103, tt_k 96 105),
  (105, tt_icge 140 108),
  (108, tt_al 0 109),
  (109, tt_gf evLY 7 10 112),
  (112, tt_al 0 113),
  (113, tt_gf evLY 7 22 116),
  (116, tt_za evLY 117),
  (117, tt_ifeq 140 120),
  (120, tt_al 0 121),
  (121, tt_gf evLY 7 29 124),
  (124, tt_al 0 125),
  (125, tt_al 0 126),
  (126, tt_gf evLY 7 22 129),
  (129, tt_cV evLY 7 1 ev_i pre_D_blockAt post_D_blockAt 132),
  (132, tt_k 63 134),
  (134, tt_iand 135),
  (135, tt_dup2 136),
  (136, tt_la evLY 137),
  (137, tt_lk 1 138),
  (138, tt_ladd 139),
  (139, tt_las evLY 140),
  (140, tt_al 0 141),
  (141, tt_il 3 142),
  (142, tt_cV evLY 7 1 ev_b pre_D_step post_D_step 145),
  (145, tt_ifeq 55 148),
  (148, tt_al 0 149),
  (149, tt_dup 150),
  (150, tt_gf evLY 7 25 153),
  (153, tt_k 1 154),
  (154, tt_iadd 155),
  (155, tt_pf evLY 7 25 158),
  (158, tt_go 55),
  (161, tt_al 0 162),
  (162, tt_gf evLY 7 26 165),
  (165, tt_ri P)]
abbrev rm_D_run : Room := { frames := 3, cells := 0, slots := 0, locals := 96 }
set_option maxRecDepth 20000 in
theorem ok_D_run (l : Launch) (J : ev_K) (P : Int32 → ev_M → ev_L → Prop) (X : ev_X l rm_D_run evLY evCl ws_D_run prog_9_method_39_code 4 y_D_run.cls J) (Z : ev_Z J prog_9_method_39_code .ireturn ev_i P) : ev_oks J (I_D_run P) :=
  ⟨qq_aln X 0 rfl d_D_run_0,
  qq_ic X 0 (by decide) d_D_run_1,
  qq_pf X 7 0 rfl (fun w h => List.mem_cons_of_mem _ (inE_D w h)) (by decide) tyD tyD_ok nmD rfl (by decide +kernel) (List.mem_cons_of_mem _ mw_754) d_D_run_2,
  qq_iln X 2 rfl d_D_run_5,
  qq_iflt X 16 (by decide) d_D_run_6,
  qq_iln X 2 rfl d_D_run_9,
  qq_sp X 3000 (by decide) d_D_run_10,
  qq_icle X 22 (by decide) d_D_run_13,
  qq_aln X 0 rfl d_D_run_16,
  qq_ic X 1 (by decide) d_D_run_17,
  qq_cV X 7 rfl (c_D_fail l) (fun hts => cwV 1 hts (evGV (mw_861) (mw_863) (mp_27) (mw_8) (mw_864)) rfl rfl rfl (by decide +kernel) ⟨Nat.le_of_ble_eq_true rfl, Nat.le_of_ble_eq_true rfl⟩) d_D_run_18,
  qq_ri Z d_D_run_21,
  qq_iln X 1 rfl d_D_run_22,
  qq_ifeq X 39 (by decide) d_D_run_23,
  qq_aln X 0 rfl d_D_run_26,
  qq_gf X 7 8 rfl (fun w h => List.mem_cons_of_mem _ (inE_D w h)) (by decide) (List.mem_cons_of_mem _ mw_762) d_D_run_27,
  qq_ifne X 39 (by decide) d_D_run_30,
  qq_aln X 0 rfl d_D_run_33,
  qq_ic X 2 (by decide) d_D_run_34,
  qq_cV X 7 rfl (c_D_fail l) (fun hts => cwV 1 hts (evGV (mw_861) (mw_863) (mp_27) (mw_8) (mw_864)) rfl rfl rfl (by decide +kernel) ⟨Nat.le_of_ble_eq_true rfl, Nat.le_of_ble_eq_true rfl⟩) d_D_run_35,
  qq_ri Z d_D_run_38,
  qq_aln X 0 rfl d_D_run_39,
  qq_cV X 7 rfl (c_D_begin l) (fun hts => cwV 0 hts (evGV (mw_955) (mw_957) (mp_39) (mw_8) (mw_958)) rfl rfl rfl (by decide +kernel) ⟨Nat.le_of_ble_eq_true rfl, Nat.le_of_ble_eq_true rfl⟩) d_D_run_40,
  qq_iln X 1 rfl d_D_run_43,
  qq_ifeq X 53 (by decide) d_D_run_44,
  qq_sp X 256 (by decide) d_D_run_47,
  qq_go X 54 (by decide) d_D_run_50,
  qq_ic X 0 (by decide) d_D_run_53,
  qq_isn X 3 rfl (by decide) d_D_run_54,
  qq_aln X 0 rfl d_D_run_55,
  qq_gf X 7 25 rfl (fun w h => List.mem_cons_of_mem _ (inE_D w h)) (by decide) (List.mem_cons_of_mem _ mw_779) d_D_run_56,
  qq_iln X 2 rfl d_D_run_59,
  qq_icge X 161 (by decide) d_D_run_60,
  qq_aln X 0 rfl d_D_run_63,
  qq_gf X 7 26 rfl (fun w h => List.mem_cons_of_mem _ (inE_D w h)) (by decide) (List.mem_cons_of_mem _ mw_780) d_D_run_64,
  qq_ifne X 161 (by decide) d_D_run_67,
  qq_aln X 0 rfl d_D_run_70,
  qq_gf X 7 22 rfl (fun w h => List.mem_cons_of_mem _ (inE_D w h)) (by decide) (List.mem_cons_of_mem _ mw_776) d_D_run_71,
  qq_sp X 256 (by decide) d_D_run_74,
  qq_iclt X 88 (by decide) d_D_run_77,
  qq_aln X 0 rfl d_D_run_80,
  qq_ic X 2 (by decide) d_D_run_81,
  qq_pf X 7 26 rfl (fun w h => List.mem_cons_of_mem _ (inE_D w h)) (by decide) tyD tyD_ok nmD rfl (by decide +kernel) (List.mem_cons_of_mem _ mw_780) d_D_run_82,
  qq_go X 55 (by decide) d_D_run_85,
  qq_iln X 1 rfl d_D_run_88,
  qq_ifne X 140 (by decide) d_D_run_89,
  qq_aln X 0 rfl d_D_run_92,
  qq_gf X 7 7 rfl (fun w h => List.mem_cons_of_mem _ (inE_D w h)) (by decide) (List.mem_cons_of_mem _ mw_761) d_D_run_93,
  qq_ifeq X 140 (by decide) d_D_run_96,
  qq_aln X 0 rfl d_D_run_99,
  qq_gf X 7 22 rfl (fun w h => List.mem_cons_of_mem _ (inE_D w h)) (by decide) (List.mem_cons_of_mem _ mw_776) d_D_run_100,
  qq_bp X 96 (by decide) d_D_run_103,
  qq_icge X 140 (by decide) d_D_run_105,
  qq_aln X 0 rfl d_D_run_108,
  qq_gf X 7 10 rfl (fun w h => List.mem_cons_of_mem _ (inE_D w h)) (by decide) (List.mem_cons_of_mem _ mw_764) d_D_run_109,
  qq_aln X 0 rfl d_D_run_112,
  qq_gf X 7 22 rfl (fun w h => List.mem_cons_of_mem _ (inE_D w h)) (by decide) (List.mem_cons_of_mem _ mw_776) d_D_run_113,
  qq_za X d_D_run_116,
  qq_ifeq X 140 (by decide) d_D_run_117,
  qq_aln X 0 rfl d_D_run_120,
  qq_gf X 7 29 rfl (fun w h => List.mem_cons_of_mem _ (inE_D w h)) (by decide) (List.mem_cons_of_mem _ mw_783) d_D_run_121,
  qq_aln X 0 rfl d_D_run_124,
  qq_aln X 0 rfl d_D_run_125,
  qq_gf X 7 22 rfl (fun w h => List.mem_cons_of_mem _ (inE_D w h)) (by decide) (List.mem_cons_of_mem _ mw_776) d_D_run_126,
  qq_cV X 7 rfl (c_D_blockAt l) (fun hts => cwV 1 hts (evGV (mw_959) (mw_924) (mw_925) (mw_8) (mw_926)) rfl rfl rfl (by decide +kernel) ⟨Nat.le_of_ble_eq_true rfl, Nat.le_of_ble_eq_true rfl⟩) d_D_run_129,
  qq_bp X 63 (by decide) d_D_run_132,
  qq_iand X d_D_run_134,
  qq_dup2 X d_D_run_135,
  qq_la X d_D_run_136,
  qq_lc X 1 (by decide) d_D_run_137,
  qq_ladd X d_D_run_138,
  qq_las X d_D_run_139,
  qq_aln X 0 rfl d_D_run_140,
  qq_iln X 3 rfl d_D_run_141,
  qq_cV X 7 rfl (c_D_step l) (fun hts => cwV 1 hts (evGV (mw_960) (mw_962) (mp_40) (mw_8) (mw_963)) rfl rfl rfl (by decide +kernel) ⟨Nat.le_of_ble_eq_true rfl, Nat.le_of_ble_eq_true rfl⟩) d_D_run_142,
  qq_ifeq X 55 (by decide) d_D_run_145,
  qq_aln X 0 rfl d_D_run_148,
  qq_dup X d_D_run_149,
  qq_gf X 7 25 rfl (fun w h => List.mem_cons_of_mem _ (inE_D w h)) (by decide) (List.mem_cons_of_mem _ mw_779) d_D_run_150,
  qq_ic X 1 (by decide) d_D_run_153,
  qq_iadd X d_D_run_154,
  qq_pf X 7 25 rfl (fun w h => List.mem_cons_of_mem _ (inE_D w h)) (by decide) tyD tyD_ok nmD rfl (by decide +kernel) (List.mem_cons_of_mem _ mw_779) d_D_run_155,
  qq_go X 55 (by decide) d_D_run_158,
  qq_aln X 0 rfl d_D_run_161,
  qq_gf X 7 26 rfl (fun w h => List.mem_cons_of_mem _ (inE_D w h)) (by decide) (List.mem_cons_of_mem _ mw_780) d_D_run_162,
  qq_ri Z d_D_run_165, trivial⟩
def pre_D_run : List Value → ev_M → ev_L → Prop := fun as σ _ => ∃ (z m : Int32) (n : Nat), as = [.ref 30, .int z, .int m] ∧ σ 30 15 = nI n ∧ n ≤ 96 ∧ (z = 0 → byF (fD σ 0)) ∧ (¬ z = 0 → ¬ σ 30 8 = 0 → byF (fD σ 256) ∧ trF (trD σ 256))
def post_D_run : List Value → ev_M → ev_L → Int32 → ev_M → ev_L → Prop := fun as σ τ r σ' τ' => match as with
  | [_, .int z, .int m] => (¬ (0 ≤ m ∧ m ≤ 3000) ∧ r = 0 ∧ σ' = ev_u σ 30 0 1 ∧ τ' = τ) ∨ ((0 ≤ m ∧ m ≤ 3000) ∧ ¬ z = 0 ∧ σ 30 8 = 0 ∧ r = 0 ∧ σ' = ev_u σ 30 0 2 ∧ τ' = τ) ∨ ((0 ≤ m ∧ m ≤ 3000) ∧ (z = 0 ∨ ¬ σ 30 8 = 0) ∧ (r, mvD σ' τ') = ms_run (fD σ (sd_base z)) (trD σ (sd_base z)) (sd_w σ z) m.toNatClampNeg (ms_begin (σ 35) (mvD σ τ)) ∧ σ' 30 0 = 0 ∧ frR σ σ' τ τ')
  | _ => False
def invD (σ : ev_M) (τ : ev_L) (z m : Int32) (μ pc : Nat) (lv st : List Value) (σ' : ev_M) (τ' : ev_L) (k : Nat) : Prop := st = [] ∧ k = 0 ∧ ((pc = 0 ∧ μ = 9000 ∧ lv = [.ref 30, .int z, .int m, .null] ∧ σ = σ' ∧ τ = τ') ∨ (pc = 55 ∧ (0 ≤ m ∧ m ≤ 3000) ∧ (z = 0 ∨ ¬ σ 30 8 = 0) ∧ ∃ i : Nat, i ≤ m.toNatClampNeg ∧ lv = [.ref 30, .int z, .int m, .int (sd_base z)] ∧ σ' 30 25 = nI i ∧ msR (mvD σ' τ') ∧ σ' 30 0 = 0 ∧ frR σ σ' τ τ' ∧ ((σ' 30 26 = 0 ∧ μ = m.toNatClampNeg - i + 1 ∧ ms_run (fD σ (sd_base z)) (trD σ (sd_base z)) (sd_w σ z) (m.toNatClampNeg - i) (mvD σ' τ') = ms_run (fD σ (sd_base z)) (trD σ (sd_base z)) (sd_w σ z) m.toNatClampNeg (ms_begin (σ 35) (mvD σ τ))) ∨ (¬ σ' 30 26 = 0 ∧ μ = 0 ∧ (σ' 30 26, mvD σ' τ') = ms_run (fD σ (sd_base z)) (trD σ (sd_base z)) (sd_w σ z) m.toNatClampNeg (ms_begin (σ 35) (mvD σ τ))))))
set_option maxHeartbeats 4000000 in
set_option maxRecDepth 100000 in
theorem c_D_run (l : Launch) : ev_C ev_i l y_D_run ws_D_run rm_D_run evLY evCl pre_D_run post_D_run := by
  refine ev_methL (by decide) rfl ev_rop_i ?_ I_D_run (ok_D_run l) [55] 80 ?_
  · rintro _ σ τ ⟨z, m, n, rfl, h⟩
    exact Nat.le_of_ble_eq_true rfl
  · rintro _ σ τ ⟨z, m, n, rfl, hn, h96, hf0, hf1⟩
    have hb : sd_base z = 0 ∨ sd_base z = 256 := by unfold sd_base; split; exact Or.inl rfl; exact Or.inr rfl
    refine ⟨invD σ τ z m, ⟨9000, rfl, rfl, Or.inl ⟨rfl, rfl, rfl, rfl, rfl⟩⟩, ?_⟩
    rintro μ pc lv st σ' τ' k ⟨rfl, rfl, ⟨rfl, rfl, rfl, rfl, rfl⟩ | ⟨rfl, hm, hz, i, hi, rfl, hdn, hR, hc0, hfr, hres⟩⟩
    · have bad : ¬ (0 ≤ m ∧ m ≤ 3000) → pre_D_fail [.ref 30, .int 1] (ev_u σ 30 0 0) τ ∧ ∀ (r : Int32) (σ1 : ev_M) (τ1 : ev_L), post_D_fail [.ref 30, .int 1] (ev_u σ 30 0 0) τ r σ1 τ1 → post_D_run [.ref 30, .int z, .int m] σ τ r σ1 τ1 := by
        intro hn
        refine ⟨⟨_, rfl⟩, ?_⟩
        rintro _ _ _ ⟨rfl, rfl, rfl⟩
        exact Or.inl ⟨hn, rfl, ev_u_u _ _ _ _ _, rfl⟩
      refine br_c (fun h => ?_) (fun h => br_c (fun h2 => ?_) (fun h2 => ?_))
      · exact bad fun q => absurd (Int32.not_lt.mpr q.1) (fun w => w h)
      · have hm : 0 ≤ m ∧ m ≤ 3000 := ⟨Int32.not_lt.mp h, h2⟩
        have hmi : m.toInt ≤ 3000 := Int32.le_iff_toInt_le.mp h2
        have hm0 : 0 ≤ m.toInt := Int32.le_iff_toInt_le.mp hm.1
        have hcl := i_cl hm0
        -- the start, with a base
        have go : ∀ bb : Int32, bb = sd_base z → (z = 0 ∨ ¬ σ 30 8 = 0) → ∀ (σ1 : ev_M) (τ1 : ev_L), post_D_begin [.ref 30] (ev_u σ 30 0 0) τ () σ1 τ1 → ∃ μ', μ' < 9000 ∧ invD σ τ z m μ' 55 [.ref 30, .int z, .int m, .int bb] [] σ1 τ1 0 := by
          rintro _ rfl hz σ1 τ1 ⟨hv, hfr, ho⟩
          have hv' : mvD σ1 τ1 = ms_begin (σ 35) (mvD σ τ) := hv
          refine ⟨m.toNatClampNeg + 1, by omega, rfl, rfl, Or.inr ⟨rfl, hm, hz, 0, Nat.zero_le _, rfl, ?_, by rw [hv']; exact ms_begin_R _ _, frR_D0 hfr, frR_tr (frR_0 0) (frR_D hfr), Or.inl ⟨ho, rfl, by rw [hv']; rfl⟩⟩⟩
          have : (mvD σ1 τ1).2.2.2.2.2.2.2.2 = 0 := by rw [hv']; rfl
          exact this
        refine br_c (fun hz => ?_) (fun hz => br_n (fun h8 => ?_) (fun h8 => ?_))
        · refine ⟨rfl, ?_⟩
          rintro _ σ1 τ1 hB
          refine br_t hz ?_
          exact go 0 (if_pos hz).symm (Or.inl hz) σ1 τ1 hB
        · refine ⟨rfl, ?_⟩
          rintro _ σ1 τ1 hB
          refine br_f hz ?_
          exact go 256 (if_neg hz).symm (Or.inr h8) σ1 τ1 hB
        · refine ⟨⟨_, rfl⟩, ?_⟩
          rintro _ _ _ ⟨rfl, rfl, rfl⟩
          exact Or.inr (Or.inl ⟨hm, hz, h8, rfl, ev_u_u _ _ _ _ _, rfl⟩)
      · exact bad fun q => h2 q.2
    · -- the loop
      have hmi : m.toInt ≤ 3000 := Int32.le_iff_toInt_le.mp hm.2
      have hm0 : 0 ≤ m.toInt := Int32.le_iff_toInt_le.mp hm.1
      have hcl := i_cl hm0
      have hbyF : byF (fD σ (sd_base z)) := by
        unfold sd_base
        split
        · rename_i h; exact hf0 h
        · rename_i h; exact (hf1 h (hz.resolve_left h)).1
      have htrF : trF (trD σ (sd_base z)) := by
        unfold sd_base
        split
        · intro a
          refine Or.inl (if_neg fun q => absurd q.1 (by decide))
        · rename_i h; exact (hf1 h (hz.resolve_left h)).2
      have eM : σ' 31 = σ 31 := hfr.1 31 (by decide) (by decide)
      have eT : σ' 32 = σ 32 := hfr.1 32 (by decide) (by decide)
      have eH : σ' 37 = σ 37 := hfr.1 37 (by decide) (by decide)
      have e40 : σ' 40 = σ 40 := hfr.1 40 (by decide) (by decide)
      have e41 : σ' 41 = σ 41 := hfr.1 41 (by decide) (by decide)
      have e7 : σ' 30 7 = σ 30 7 := hfr.2.1 7 (by decide) (by decide)
      have e15 : σ' 30 15 = σ 30 15 := hfr.2.1 15 (by decide) (by decide)
      have efD : fD σ' (sd_base z) = fD σ (sd_base z) := by unfold fD; rw [eM]
      have etD : trD σ' (sd_base z) = trD σ (sd_base z) := by unfold trD; rw [eT]
      have hpc : 0 ≤ (σ' 30 22).toInt ∧ (σ' 30 22).toInt ≤ 256 := hR.1
      have h256 : (256 : Int32).toInt = 256 := rfl
      have fin : ∀ hmi : i = m.toNatClampNeg ∨ ¬ σ' 30 26 = 0, (σ' 30 26, mvD σ' τ') = ms_run (fD σ (sd_base z)) (trD σ (sd_base z)) (sd_w σ z) m.toNatClampNeg (ms_begin (σ 35) (mvD σ τ)) := by
        intro hq
        rcases hres with ⟨h3, _, h4⟩ | ⟨h3, _, h4⟩
        · rcases hq with hq | hq
          · have e0 : m.toNatClampNeg - i = 0 := by omega
            rw [← h4, e0, h3]; rfl
          · exact absurd h3 hq
        · exact h4
      refine br_c (fun h => ?_) (fun h => br_n (fun h2 => ?_) (fun h2 => ?_))
      · have h' : m ≤ nI i := by rw [← hdn]; exact h
        rw [Int32.le_iff_toInt_le, nI_toInt (by omega)] at h'
        exact Or.inr (Or.inr ⟨hm, hz, fin (Or.inl (by omega)), hc0, hfr⟩)
      · exact Or.inr (Or.inr ⟨hm, hz, fin (Or.inr h2), hc0, hfr⟩)
      · have h' : ¬ m ≤ nI i := by rw [← hdn]; exact h
        rw [Int32.le_iff_toInt_le, nI_toInt (by omega)] at h'
        obtain ⟨_, hμ, hrun⟩ := hres.resolve_right (fun w => w.1 h2)
        have e1 : m.toNatClampNeg - i = (m.toNatClampNeg - (i + 1)) + 1 := by omega
        rw [e1] at hrun
        -- behind the step
        have stp : ∀ (σ1 : ev_M) (τ1 : ev_L), msR (mvD σ1 τ1) → mvD σ1 τ1 = sd_w σ z (mvD σ' τ') → frR σ σ1 τ τ1 → σ1 30 0 = 0 → σ1 30 26 = 0 → (σ' 30 22).toInt ≤ 255 → pre_D_step [.ref 30, .int (sd_base z)] σ1 τ1 ∧ ∀ (r : Bool) (σ2 : ev_M) (τ2 : ev_L), post_D_step [.ref 30, .int (sd_base z)] σ1 τ1 r σ2 τ2 → ((((cond r 1 0 : Int32) = 0) → ∃ μ', μ' < μ ∧ invD σ τ z m μ' 55 [.ref 30, .int z, .int m, .int (sd_base z)] [] σ2 τ2 0) ∧ ((¬ (cond r 1 0 : Int32) = 0) → ∃ μ', μ' < μ ∧ invD σ τ z m μ' 55 [.ref 30, .int z, .int m, .int (sd_base z)] [] (ev_u σ2 30 25 (σ2 30 25 + 1)) τ2 0)) := by
          intro σ1 τ1 hR1 hv1 hfr1 hc1 ho1 h255
          have efD1 : fD σ1 (sd_base z) = fD σ (sd_base z) := by unfold fD; rw [hfr1.1 31 (by decide) (by decide)]
          have etD1 : trD σ1 (sd_base z) = trD σ (sd_base z) := by unfold trD; rw [hfr1.1 32 (by decide) (by decide)]
          have hpc1 : (σ1 30 22).toInt ≤ 255 := by
            have e : σ1 30 22 = ms_pc (sd_w σ z (mvD σ' τ')) := by rw [← hv1]; rfl
            have e2 : ms_pc (sd_w σ z (mvD σ' τ')) = σ' 30 22 := by
              unfold sd_w
              split
              · show ms_pc (ms_wD σ (mvD σ' τ')) = _
                unfold ms_wD
                split <;> rfl
              · rfl
            rw [e, e2]; exact h255
          have hdn1 : σ1 30 25 = nI i := by
            have e : σ1 30 25 = (sd_w σ z (mvD σ' τ')).2.2.2.2.2.2.2.2 := by rw [← hv1]; rfl
            have e2 : (sd_w σ z (mvD σ' τ')).2.2.2.2.2.2.2.2 = σ' 30 25 := by
              unfold sd_w
              split
              · show (ms_wD σ (mvD σ' τ')).2.2.2.2.2.2.2.2 = _
                unfold ms_wD
                split <;> rfl
              · rfl
            rw [e, e2]; exact hdn
          refine ⟨⟨_, rfl, hb, by rw [efD1]; exact hbyF, hR1, hpc1⟩, ?_⟩
          rintro r σ2 τ2 ⟨hf2, hr, hv2, ho2⟩
          rw [efD1, etD1, hv1] at hr hv2 ho2
          have hR2 := ms_step_R hbyF htrF (sd_w_R (σ := σ) (z := z) hR)
          refine ⟨fun q => ?_, fun q => ?_⟩
          · have hrf : r = false := bz q
            subst hrf
            have hy : (ms_step (fD σ (sd_base z)) (trD σ (sd_base z)) (sd_w σ z (mvD σ' τ'))).1 = 2 := by
              by_cases hq : (ms_step (fD σ (sd_base z)) (trD σ (sd_base z)) (sd_w σ z (mvD σ' τ'))).1 = 2
              · exact hq
              · exact absurd (hr.mpr hq) (by decide)
            have hv3 : mvD σ2 τ2 = (ms_step (fD σ (sd_base z)) (trD σ (sd_base z)) (sd_w σ z (mvD σ' τ'))).2 := hv2
            have ho3 : σ2 30 26 = 2 := by rw [ho2, hy]; rfl
            have hd2 : σ2 30 25 = nI i := by
              have e := hf2.2.1 25
              rw [← hdn1]
              have hx : (mvD σ2 τ2).2.2.2.2.2.2.2.2 = (sd_w σ z (mvD σ' τ')).2.2.2.2.2.2.2.2 := by
                rw [hv3]
                have hx2 : ∀ x : mst, (ms_step (fD σ (sd_base z)) (trD σ (sd_base z)) x).1 = 2 → msR x → (ms_step (fD σ (sd_base z)) (trD σ (sd_base z)) x).2 = x := by
                  intro x hx1 hxR
                  revert hx1
                  suffices key : ∀ y : Int32 × mst, y = ms_step (fD σ (sd_base z)) (trD σ (sd_base z)) x → y.1 = 2 → y.2 = x from key _ rfl
                  intro y hy
                  unfold ms_step at hy
                  split at hy
                  · rename_i hok
                    have hpx := ms_pc_R hxR
                    have hl3 := sp_len_3 (sp_kind (sp_at (fD σ (sd_base z)) (ms_pc x)))
                    have eb : (ms_pc x + sp_len (sp_kind (sp_at (fD σ (sd_base z)) (ms_pc x)))).toInt = (ms_pc x).toInt + (sp_len (sp_kind (sp_at (fD σ (sd_base z)) (ms_pc x)))).toInt := i_add (by omega) (by omega) (by omega) (by omega)
                    split at hy
                    · subst hy; intro w; exact absurd w (show ¬ (1 : Int32) = 2 by decide)
                    · split at hy
                      · rename_i hw
                        subst hy
                        intro _
                        exact ms_perf_f (by omega) (sp_at_by hbyF _).1 hxR hw
                      · subst hy; intro w; exact absurd w (show ¬ (0 : Int32) = 2 by decide)
                  · subst hy; intro _; rfl
                rw [hx2 _ hy (sd_w_R hR)]
              have hx3 : (sd_w σ z (mvD σ' τ')).2.2.2.2.2.2.2.2 = σ1 30 25 := by rw [← hv1]; rfl
              exact hx.trans hx3
            refine ⟨0, by omega, rfl, rfl, Or.inr ⟨rfl, hm, hz, i, hi, rfl, hd2, by rw [hv3]; exact hR2, by rw [frR_D0 hf2]; exact hc1, frR_tr hfr1 (frR_D hf2), Or.inr ⟨by rw [ho3]; decide, rfl, ?_⟩⟩⟩
            rw [← hrun]
            refine Eq.trans ?_ (if_neg (by rw [hy]; decide)).symm
            refine Prod.ext ?_ hv3
            rw [ho3]; exact hy.symm
          · have hrt : r = true := bnz q
            subst hrt
            have hy := hr.mp rfl
            have hv3 : mvD (ev_u σ2 30 25 (σ2 30 25 + 1)) τ2 = (ms_step (fD σ (sd_base z)) (trD σ (sd_base z)) (sd_w σ z (mvD σ' τ'))).2 := hv2
            have hd2 : σ2 30 25 = nI i := by
              have hx : (ms_step (fD σ (sd_base z)) (trD σ (sd_base z)) (sd_w σ z (mvD σ' τ'))).2.2.2.2.2.2.2.2.2 = (sd_w σ z (mvD σ' τ')).2.2.2.2.2.2.2.2 + 1 := by
                suffices key : ∀ (x : mst) (y : Int32 × mst), y = ms_step (fD σ (sd_base z)) (trD σ (sd_base z)) x → ¬ y.1 = 2 → y.2.2.2.2.2.2.2.2.2 = x.2.2.2.2.2.2.2.2 + 1 from key _ _ rfl hy
                intro x y hy
                have hdnp : ∀ (kd op n m bh : Int32), (ms_perf (fD σ (sd_base z)) (trD σ (sd_base z)) kd op n m bh x).2.2.2.2.2.2.2.2.2 = x.2.2.2.2.2.2.2.2 := by
                  intro kd op n m bh
                  obtain ⟨r, c, s, o, t, pc, h, sh, dn⟩ := x
                  exact ms_perf_dn
                unfold ms_step at hy
                split at hy
                · split at hy
                  · subst hy
                    intro _
                    obtain ⟨r, c, s, o, t, pc, h, sh, dn⟩ := x
                    rfl
                  · split at hy
                    · subst hy; intro w; exact absurd rfl w
                    · subst hy
                      intro _
                      have e := hdnp (sp_kind (sp_at (fD σ (sd_base z)) (ms_pc x))) (sp_at (fD σ (sd_base z)) (ms_pc x)) (sp_at (fD σ (sd_base z)) (ms_pc x + 1)) (sp_at (fD σ (sd_base z)) (ms_pc x + 2)) (ms_pc x + sp_len (sp_kind (sp_at (fD σ (sd_base z)) (ms_pc x))))
                      rw [← e]
                      rfl
                · subst hy; intro w; exact absurd rfl w
              have hx2 : (mvD (ev_u σ2 30 25 (σ2 30 25 + 1)) τ2).2.2.2.2.2.2.2.2 = (sd_w σ z (mvD σ' τ')).2.2.2.2.2.2.2.2 + 1 := by rw [hv3]; exact hx
              have hx3 : (sd_w σ z (mvD σ' τ')).2.2.2.2.2.2.2.2 = σ1 30 25 := by rw [← hv1]; rfl
              rw [hx3, hdn1] at hx2
              have hx4 : σ2 30 25 + 1 = nI i + 1 := hx2
              have hx5 : σ2 30 25 + 1 - 1 = nI i + 1 - 1 := by rw [hx4]
              rwa [Int32.add_sub_cancel, Int32.add_sub_cancel] at hx5
            have hfr2 : frR σ (ev_u σ2 30 25 (σ2 30 25 + 1)) τ τ2 := frR_tr hfr1 (frR_tr (frR_D hf2) (frR_D (frD_f _ _ (by decide))))
            by_cases hy0 : (ms_step (fD σ (sd_base z)) (trD σ (sd_base z)) (sd_w σ z (mvD σ' τ'))).1 = 0
            · refine ⟨m.toNatClampNeg - (i + 1) + 1, by omega, rfl, rfl, Or.inr ⟨rfl, hm, hz, i + 1, by omega, rfl, ?_, by rw [hv3]; exact hR2, ?_, hfr2, Or.inl ⟨?_, rfl, ?_⟩⟩⟩
              · show σ2 30 25 + 1 = _
                rw [hd2, nI_1]
              · show σ2 30 0 = 0
                rw [frR_D0 hf2]; exact hc1
              · show σ2 30 26 = 0
                rw [ho2, if_pos hy0]; exact ho1
              · rw [← hrun, hv3]
                exact (if_pos hy0).symm
            · refine ⟨0, by omega, rfl, rfl, Or.inr ⟨rfl, hm, hz, i + 1, by omega, rfl, ?_, by rw [hv3]; exact hR2, ?_, hfr2, Or.inr ⟨?_, rfl, ?_⟩⟩⟩
              · show σ2 30 25 + 1 = _
                rw [hd2, nI_1]
              · show σ2 30 0 = 0
                rw [frR_D0 hf2]; exact hc1
              · show ¬ σ2 30 26 = 0
                rw [ho2, if_neg hy0]; exact hy0
              · rw [← hrun]
                refine Eq.trans ?_ (if_neg hy0).symm
                refine Prod.ext ?_ hv3
                show σ2 30 26 = _
                rw [ho2, if_neg hy0]
        have ho0 : σ' 30 26 = 0 := h2
        refine br_c (fun h4 => ?_) (fun h4 => ?_)
        · have h4' : σ' 30 22 < 256 := h4
          rw [Int32.lt_iff_toInt_lt, h256] at h4'
          have h255 : (σ' 30 22).toInt ≤ 255 := by omega
          refine br_n (fun hz1 => ?_) (fun hz0 => ?_)
          · exact stp σ' τ' hR (by unfold sd_w; rw [if_neg hz1]) hfr hc0 ho0 h255
          · have hw : sd_w σ z = ms_wD σ := if_pos hz0
            have nocount : ¬ (¬ σ 30 7 = 0 ∧ ms_pc (mvD σ' τ') < 96 ∧ ¬ σ 37 (ms_pc (mvD σ' τ')).toNatClampNeg = 0) → mvD σ' τ' = sd_w σ z (mvD σ' τ') := fun hn => by rw [hw]; exact (if_neg hn).symm
            refine br_c (fun h7 => ?_) (fun h7 => br_c (fun h9 => ?_) (fun h9 => ?_))
            · exact stp σ' τ' hR (nocount fun q => q.1 (by rw [← e7]; exact h7)) hfr hc0 ho0 h255
            · exact stp σ' τ' hR (nocount fun q => absurd (Int32.not_le.mpr q.2.1) (fun w => w h9)) hfr hc0 ho0 h255
            · have h9' : σ' 30 22 < 96 := Int32.not_le.mp h9
              have h96i := Int32.lt_iff_toInt_lt.mp h9'
              have h96v : (96 : Int32).toInt = 96 := rfl
              refine ⟨by rw [vp_in_iff]; omega, br_c (fun h10 => ?_) (fun h10 => ?_)⟩
              · exact stp σ' τ' hR (nocount fun q => q.2.2 (by rw [← eH]; exact h10)) hfr hc0 ho0 h255
              · refine ⟨⟨_, n, rfl, by rw [e15]; exact hn, h96⟩, ?_⟩
                rintro _ _ τ' ⟨rfl, rfl, rfl⟩
                have h7' : ¬ σ 30 7 = 0 := by rw [← e7]; exact h7
                have hv63 : vp_in ((if σ' 30 7 = 0 then -1 else sd_last (σ' 40) (σ' 41) (σ' 30 22) (σ' 30 15).toNatClampNeg) &&& 63) 64 := pk_andIn _ 6 rfl (by decide)
                refine ⟨hv63, hv63, ?_⟩
                have hblk : (if σ' 30 7 = 0 then -1 else sd_last (σ' 40) (σ' 41) (σ' 30 22) (σ' 30 15).toNatClampNeg) = sd_last (σ 40) (σ 41) (ms_pc (mvD σ' τ')) (σ 30 15).toNatClampNeg := by
                  rw [e7, if_neg h7', e40, e41, e15]; rfl
                rw [hblk]
                have hcnt : sd_w σ z (mvD σ' τ') = ms_cnt (sd_last (σ 40) (σ 41) (ms_pc (mvD σ' τ')) (σ 30 15).toNatClampNeg) (mvD σ' τ') := by
                  rw [hw]
                  exact if_pos ⟨h7', h9', by rw [← eH]; exact h10⟩
                refine stp _ _ ?_ ?_ (frR_tr hfr (frR_tr (frR_0 0) (frR_D (frD_w _ _)))) rfl ho0 h255
                · exact ms_cnt_R (k := sd_last (σ 40) (σ 41) (ms_pc (mvD σ' τ')) (σ 30 15).toNatClampNeg) hR
                · rw [hcnt]; rfl
        · -- behind memory
          have h4' : ¬ σ' 30 22 < 256 := h4
          rw [Int32.lt_iff_toInt_lt, h256] at h4'
          have hpx : ¬ ms_pc (mvD σ' τ') < 256 := h4
          have hwx : sd_w σ z (mvD σ' τ') = mvD σ' τ' := by
            unfold sd_w
            split
            · show ms_wD σ (mvD σ' τ') = _
              refine if_neg fun q => ?_
              have q2 := Int32.lt_iff_toInt_lt.mp q.2.1
              have q3 : (96 : Int32).toInt = 96 := rfl
              have q4 : (ms_pc (mvD σ' τ')).toInt = (σ' 30 22).toInt := rfl
              omega
            · rfl
          have hy : ms_step (fD σ (sd_base z)) (trD σ (sd_base z)) (sd_w σ z (mvD σ' τ')) = (2, mvD σ' τ') := by
            rw [hwx]
            exact if_neg fun q => hpx q.2.1
          refine ⟨0, by omega, rfl, rfl, Or.inr ⟨rfl, hm, hz, i, hi, rfl, hdn, hR, hc0, frR_tr hfr (frR_D (frD_f _ _ (by decide))), Or.inr ⟨by show ¬ (2 : Int32) = 0; decide, rfl, ?_⟩⟩⟩
          rw [← hrun]
          refine Eq.trans ?_ (if_neg (by rw [hy]; exact (show ¬ (2 : Int32) = 0 by decide))).symm
          rw [hy]
          rfl
