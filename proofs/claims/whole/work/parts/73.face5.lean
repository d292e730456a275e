/-! the face's walks, on -/
def y_B_code : MethodName := ⟨RX6, "code", "(IZ)I"⟩
def ws_B_code : List Cond := .code y_B_code prog_1_method_9_code 3 (some .int) :: evW
theorem d_B_code_0 : decode prog_1_method_9_code 0 = .ok (.iload_n 1, 1) := by decide +kernel
theorem d_B_code_1 : decode prog_1_method_9_code 1 = .ok (.ifCond .lt 10, 3) := by decide +kernel
theorem d_B_code_4 : decode prog_1_method_9_code 4 = .ok (.iload_n 1, 1) := by decide +kernel
theorem d_B_code_5 : decode prog_1_method_9_code 5 = .ok (.sipush 256, 3) := by decide +kernel
theorem d_B_code_8 : decode prog_1_method_9_code 8 = .ok (.if_icmp .lt 13, 3) := by decide +kernel
theorem d_B_code_11 : decode prog_1_method_9_code 11 = .ok (.new 48, 3) := by decide +kernel
theorem d_B_code_14 : decode prog_1_method_9_code 14 = .ok (.dup, 1) := by decide +kernel
theorem d_B_code_15 : decode prog_1_method_9_code 15 = .ok (.ldc 129, 2) := by decide +kernel
theorem d_B_code_17 : decode prog_1_method_9_code 17 = .ok (.invokespecial 52, 3) := by decide +kernel
theorem d_B_code_20 : decode prog_1_method_9_code 20 = .ok (.athrow, 1) := by decide +kernel
theorem d_B_code_21 : decode prog_1_method_9_code 21 = .ok (.iload_n 2, 1) := by decide +kernel
theorem d_B_code_22 : decode prog_1_method_9_code 22 = .ok (.ifCond .eq 23, 3) := by decide +kernel
theorem d_B_code_25 : decode prog_1_method_9_code 25 = .ok (.aload_n 0, 1) := by decide +kernel
theorem d_B_code_26 : decode prog_1_method_9_code 26 = .ok (.getfield 37, 3) := by decide +kernel
theorem d_B_code_29 : decode prog_1_method_9_code 29 = .ok (.invokevirtual 131, 3) := by decide +kernel
theorem d_B_code_32 : decode prog_1_method_9_code 32 = .ok (.ifCond .ne 13, 3) := by decide +kernel
theorem d_B_code_35 : decode prog_1_method_9_code 35 = .ok (.new 71, 3) := by decide +kernel
theorem d_B_code_38 : decode prog_1_method_9_code 38 = .ok (.dup, 1) := by decide +kernel
theorem d_B_code_39 : decode prog_1_method_9_code 39 = .ok (.ldc 132, 2) := by decide +kernel
theorem d_B_code_41 : decode prog_1_method_9_code 41 = .ok (.invokespecial 75, 3) := by decide +kernel
theorem d_B_code_44 : decode prog_1_method_9_code 44 = .ok (.athrow, 1) := by decide +kernel
theorem d_B_code_45 : decode prog_1_method_9_code 45 = .ok (.iload_n 2, 1) := by decide +kernel
theorem d_B_code_46 : decode prog_1_method_9_code 46 = .ok (.ifCond .eq 17, 3) := by decide +kernel
theorem d_B_code_49 : decode prog_1_method_9_code 49 = .ok (.aload_n 0, 1) := by decide +kernel
theorem d_B_code_50 : decode prog_1_method_9_code 50 = .ok (.getfield 37, 3) := by decide +kernel
theorem d_B_code_53 : decode prog_1_method_9_code 53 = .ok (.invokevirtual 134, 3) := by decide +kernel
theorem d_B_code_56 : decode prog_1_method_9_code 56 = .ok (.iload_n 1, 1) := by decide +kernel
theorem d_B_code_57 : decode prog_1_method_9_code 57 = .ok (.invokevirtual 138, 3) := by decide +kernel
theorem d_B_code_60 : decode prog_1_method_9_code 60 = .ok (.goto 11, 3) := by decide +kernel
theorem d_B_code_63 : decode prog_1_method_9_code 63 = .ok (.aload_n 0, 1) := by decide +kernel
theorem d_B_code_64 : decode prog_1_method_9_code 64 = .ok (.getfield 10, 3) := by decide +kernel
theorem d_B_code_67 : decode prog_1_method_9_code 67 = .ok (.iload_n 1, 1) := by decide +kernel
theorem d_B_code_68 : decode prog_1_method_9_code 68 = .ok (.invokevirtual 138, 3) := by decide +kernel
theorem d_B_code_71 : decode prog_1_method_9_code 71 = .ok (.ireturn, 1) := by decide +kernel
def I_B_code (P : Int32 → ev_M → ev_L → Prop) (PX : Nat → ev_M → ev_L → Prop) : List (Nat × ev_T) := [(0, tt_il 1 1),
  (1, tt_iflt 11 4),
  (4, tt_il 1 5),
  (5, tt_k 256 8),
  (8, tt_iclt 21 11),
  (11, tt_th 0 PX),
  (21, tt_il 2 22),
  (22, tt_ifeq 45 25),
  (25, tt_al 0 26),
  (26, tt_gf evLY 6 4 29),
  (29, tt_cV evLY 4 0 ev_b pre_R_exists post_R_exists 32),
  (32, tt_ifne 45 35),
  (35, tt_th 2 PX),
  (45, tt_il 2 46),
  (46, tt_ifeq 63 49),
  (49, tt_al 0 50),
  (50, tt_gf evLY 6 4 53),
  (53, tt_cV evLY 4 0 ev_r pre_R_result post_R_result 56),
  (56, tt_il 1 57),
  (57, tt_cV evLY 3 1 ev_i pre_P_at post_P_at 60),
  (60, tt_go 71),
  (63, tt_al 0 64),
  (64, tt_gf evLY 6 0 67),
  (67, tt_il 1 68),
  (68, tt_cV evLY 3 1 ev_i pre_P_at post_P_at 71),
  (71, tt_ri P)]
abbrev rm_B_code : Room := { frames := 6, cells := 1, slots := 6, locals := 192 }
set_option maxRecDepth 20000 in
theorem ok_B_code (l : Launch) (J : ev_K) (P : Int32 → ev_M → ev_L → Prop) (PX : Nat → ev_M → ev_L → Prop) (X : ev_X l rm_B_code evLY evCl ws_B_code prog_1_method_9_code 3 y_B_code.cls J) (Z : ev_Z J prog_1_method_9_code .ireturn ev_i P) (T : ex_Z J prog_1_method_9_code PX) : ev_oks J (I_B_code P PX) :=
  ⟨qq_iln X 1 rfl d_B_code_0,
  qq_iflt X 11 (by decide) d_B_code_1,
  qq_iln X 1 rfl d_B_code_4,
  qq_sp X 256 (by decide) d_B_code_5,
  qq_iclt X 21 (by decide) d_B_code_8,
  qq_th T 0 (by decide) (List.mem_of_getElem? (i := 9) rfl) d_B_code_11 d_B_code_14 d_B_code_15 d_B_code_17 d_B_code_20,
  qq_iln X 2 rfl d_B_code_21,
  qq_ifeq X 45 (by decide) d_B_code_22,
  qq_aln X 0 rfl d_B_code_25,
  qq_gf X 6 4 rfl (fun w h => List.mem_cons_of_mem _ (inE_B w h)) (by decide) (List.mem_cons_of_mem _ mw_197) d_B_code_26,
  qq_cV X 4 rfl (c_R_exists l) (fun hts => cwV 0 hts (evGV (mw_589) (mw_590) (mw_591) (mw_6) (mw_592)) rfl rfl rfl (by decide +kernel) ⟨Nat.le_of_ble_eq_true rfl, Nat.le_of_ble_eq_true rfl⟩) d_B_code_29,
  qq_ifne X 45 (by decide) d_B_code_32,
  qq_th T 2 (by decide) (List.mem_of_getElem? (i := 10) rfl) d_B_code_35 d_B_code_38 d_B_code_39 d_B_code_41 d_B_code_44,
  qq_iln X 2 rfl d_B_code_45,
  qq_ifeq X 63 (by decide) d_B_code_46,
  qq_aln X 0 rfl d_B_code_49,
  qq_gf X 6 4 rfl (fun w h => List.mem_cons_of_mem _ (inE_B w h)) (by decide) (List.mem_cons_of_mem _ mw_197) d_B_code_50,
  qq_cV X 4 rfl (c_R_result l) (fun hts => cwV 0 hts (evGV (mw_594) (mw_595) (mw_596) (mw_6) (mw_597)) rfl rfl rfl (by decide +kernel) ⟨Nat.le_of_ble_eq_true rfl, Nat.le_of_ble_eq_true rfl⟩) d_B_code_53,
  qq_iln X 1 rfl d_B_code_56,
  qq_cV X 3 rfl (c_P_at l) (fun hts => cwV 1 hts (evGV (mw_598) (mw_423) (mw_424) (mw_2) (mw_425)) rfl rfl rfl (by decide +kernel) ⟨Nat.le_of_ble_eq_true rfl, Nat.le_of_ble_eq_true rfl⟩) d_B_code_57,
  qq_go X 71 (by decide) d_B_code_60,
  qq_aln X 0 rfl d_B_code_63,
  qq_gf X 6 0 rfl (fun w h => List.mem_cons_of_mem _ (inE_B w h)) (by decide) (List.mem_cons_of_mem _ mw_193) d_B_code_64,
  qq_iln X 1 rfl d_B_code_67,
  qq_cV X 3 rfl (c_P_at l) (fun hts => cwV 1 hts (evGV (mw_598) (mw_423) (mw_424) (mw_2) (mw_425)) rfl rfl rfl (by decide +kernel) ⟨Nat.le_of_ble_eq_true rfl, Nat.le_of_ble_eq_true rfl⟩) d_B_code_68,
  qq_ri Z d_B_code_71, trivial⟩
set_option maxHeartbeats 4000000 in
set_option maxRecDepth 100000 in
theorem c_B_code (l : Launch) (hst : l.stackTraces = false) : ex_C ev_i l y_B_code ws_B_code rm_B_code evLY evCl pre_B_code post_B_code px_B_code := by
  refine ex_meth0 hst rfl (by decide) rfl ev_rop_i ?_ (by decide) I_B_code (ok_B_code l) 60 ?_
  · rintro _ σ τ ⟨a, z, rfl, hp⟩
    exact Nat.le_of_ble_eq_true rfl
  · rintro _ σ τ ⟨a, z, rfl, hs⟩
    have no : (¬ (0 ≤ a ∧ a < 256)) → px_B_code [.ref 0, .int a, .int z] σ τ 0 σ τ := fun h => ⟨Or.inl ⟨rfl, h⟩, rfl, rfl⟩
    refine br_c (fun h => ?_) (fun h => ?_)
    · exact no (fun q => absurd q.1 (Int32.not_le.mpr h))
    · refine br_c (fun h2 => ?_) (fun h2 => ?_)
      · have ha : 0 ≤ a ∧ a < 256 := ⟨i_ge0 h, h2⟩
        by_cases hz : z = 0
        · refine br_t hz ?_
          refine br_t hz ?_
          refine ⟨⟨1, a, rfl, Or.inl rfl⟩, ?_⟩
          rintro r σ τ ⟨rfl, rfl, rfl⟩
          exact ⟨ha, Or.inl ⟨hz, rfl⟩, rfl, rfl⟩
        · refine br_f hz ?_
          refine ⟨⟨rfl, hs⟩, ?_⟩
          rintro r σ τ ⟨rfl, rfl, rfl⟩
          by_cases h1 : σ 18 3 = 1
          · refine br_nt (by rw [decide_eq_true h1]; decide) ?_
            refine br_f hz ?_
            refine ⟨rfl, ?_⟩
            rintro r σ τ ⟨rfl, rfl, rfl⟩
            refine ⟨⟨20, a, rfl, Or.inr rfl⟩, ?_⟩
            rintro r σ τ ⟨rfl, rfl, rfl⟩
            exact ⟨ha, Or.inr ⟨hz, h1, rfl⟩, rfl, rfl⟩
          · refine br_nf (by rw [decide_eq_false h1]; rfl) ?_
            exact ⟨Or.inr ⟨rfl, ha, hz, h1⟩, rfl, rfl⟩
      · exact no (fun q => h2 q.2)
def y_B_run : MethodName := ⟨RX6, "run", "(ZI)I"⟩
def ws_B_run : List Cond := .code y_B_run prog_1_method_10_code 3 (some .int) :: evW
theorem d_B_run_0 : decode prog_1_method_10_code 0 = .ok (.iload_n 2, 1) := by decide +kernel
theorem d_B_run_1 : decode prog_1_method_10_code 1 = .ok (.ifCond .lt 10, 3) := by decide +kernel
theorem d_B_run_4 : decode prog_1_method_10_code 4 = .ok (.iload_n 2, 1) := by decide +kernel
theorem d_B_run_5 : decode prog_1_method_10_code 5 = .ok (.sipush 3000, 3) := by decide +kernel
theorem d_B_run_8 : decode prog_1_method_10_code 8 = .ok (.if_icmp .le 13, 3) := by decide +kernel
theorem d_B_run_11 : decode prog_1_method_10_code 11 = .ok (.new 62, 3) := by decide +kernel
theorem d_B_run_14 : decode prog_1_method_10_code 14 = .ok (.dup, 1) := by decide +kernel
theorem d_B_run_15 : decode prog_1_method_10_code 15 = .ok (.ldc 141, 2) := by decide +kernel
theorem d_B_run_17 : decode prog_1_method_10_code 17 = .ok (.invokespecial 66, 3) := by decide +kernel
theorem d_B_run_20 : decode prog_1_method_10_code 20 = .ok (.athrow, 1) := by decide +kernel
theorem d_B_run_21 : decode prog_1_method_10_code 21 = .ok (.iload_n 1, 1) := by decide +kernel
theorem d_B_run_22 : decode prog_1_method_10_code 22 = .ok (.ifCond .eq 23, 3) := by decide +kernel
theorem d_B_run_25 : decode prog_1_method_10_code 25 = .ok (.aload_n 0, 1) := by decide +kernel
theorem d_B_run_26 : decode prog_1_method_10_code 26 = .ok (.getfield 37, 3) := by decide +kernel
theorem d_B_run_29 : decode prog_1_method_10_code 29 = .ok (.invokevirtual 131, 3) := by decide +kernel
theorem d_B_run_32 : decode prog_1_method_10_code 32 = .ok (.ifCond .ne 13, 3) := by decide +kernel
theorem d_B_run_35 : decode prog_1_method_10_code 35 = .ok (.new 71, 3) := by decide +kernel
theorem d_B_run_38 : decode prog_1_method_10_code 38 = .ok (.dup, 1) := by decide +kernel
theorem d_B_run_39 : decode prog_1_method_10_code 39 = .ok (.ldc 132, 2) := by decide +kernel
theorem d_B_run_41 : decode prog_1_method_10_code 41 = .ok (.invokespecial 75, 3) := by decide +kernel
theorem d_B_run_44 : decode prog_1_method_10_code 44 = .ok (.athrow, 1) := by decide +kernel
theorem d_B_run_45 : decode prog_1_method_10_code 45 = .ok (.aload_n 0, 1) := by decide +kernel
theorem d_B_run_46 : decode prog_1_method_10_code 46 = .ok (.getfield 44, 3) := by decide +kernel
theorem d_B_run_49 : decode prog_1_method_10_code 49 = .ok (.aload_n 0, 1) := by decide +kernel
theorem d_B_run_50 : decode prog_1_method_10_code 50 = .ok (.getfield 23, 3) := by decide +kernel
theorem d_B_run_53 : decode prog_1_method_10_code 53 = .ok (.invokevirtual 143, 3) := by decide +kernel
theorem d_B_run_56 : decode prog_1_method_10_code 56 = .ok (.iload_n 1, 1) := by decide +kernel
theorem d_B_run_57 : decode prog_1_method_10_code 57 = .ok (.ifCond .eq 19, 3) := by decide +kernel
theorem d_B_run_60 : decode prog_1_method_10_code 60 = .ok (.aload_n 0, 1) := by decide +kernel
theorem d_B_run_61 : decode prog_1_method_10_code 61 = .ok (.getfield 44, 3) := by decide +kernel
theorem d_B_run_64 : decode prog_1_method_10_code 64 = .ok (.aload_n 0, 1) := by decide +kernel
theorem d_B_run_65 : decode prog_1_method_10_code 65 = .ok (.getfield 37, 3) := by decide +kernel
theorem d_B_run_68 : decode prog_1_method_10_code 68 = .ok (.invokevirtual 134, 3) := by decide +kernel
theorem d_B_run_71 : decode prog_1_method_10_code 71 = .ok (.iload_n 2, 1) := by decide +kernel
theorem d_B_run_72 : decode prog_1_method_10_code 72 = .ok (.invokevirtual 147, 3) := by decide +kernel
theorem d_B_run_75 : decode prog_1_method_10_code 75 = .ok (.ireturn, 1) := by decide +kernel
theorem d_B_run_76 : decode prog_1_method_10_code 76 = .ok (.aload_n 0, 1) := by decide +kernel
theorem d_B_run_77 : decode prog_1_method_10_code 77 = .ok (.getfield 44, 3) := by decide +kernel
theorem d_B_run_80 : decode prog_1_method_10_code 80 = .ok (.aload_n 0, 1) := by decide +kernel
theorem d_B_run_81 : decode prog_1_method_10_code 81 = .ok (.getfield 10, 3) := by decide +kernel
theorem d_B_run_84 : decode prog_1_method_10_code 84 = .ok (.iload_n 2, 1) := by decide +kernel
theorem d_B_run_85 : decode prog_1_method_10_code 85 = .ok (.aload_n 0, 1) := by decide +kernel
theorem d_B_run_86 : decode prog_1_method_10_code 86 = .ok (.getfield 30, 3) := by decide +kernel
theorem d_B_run_89 : decode prog_1_method_10_code 89 = .ok (.invokevirtual 151, 3) := by decide +kernel
theorem d_B_run_92 : decode prog_1_method_10_code 92 = .ok (.ireturn, 1) := by decide +kernel
def I_B_run (P : Int32 → ev_M → ev_L → Prop) (PX : Nat → ev_M → ev_L → Prop) : List (Nat × ev_T) := [(0, tt_il 2 1),
  (1, tt_iflt 11 4),
  (4, tt_il 2 5),
  (5, tt_k 3000 8),
  (8, tt_icle 21 11),
  (11, tt_th 1 PX),
  (21, tt_il 1 22),
  (22, tt_ifeq 45 25),
  (25, tt_al 0 26),
  (26, tt_gf evLY 6 4 29),
  (29, tt_cV evLY 4 0 ev_b pre_R_exists post_R_exists 32),
  (32, tt_ifne 45 35),
  (35, tt_th 2 PX),
  (45, tt_al 0 46),
  (46, tt_gf evLY 6 5 49),
  (49, tt_al 0 50),
  (50, tt_gf evLY 6 2 53),
  (53, tt_cV evLY 2 1 ev_n pre_M_start post_M_start 56),
  (56, tt_il 1 57),
  (57, tt_ifeq 76 60),
  (60, tt_al 0 61),
  (61, tt_gf evLY 6 5 64),
  (64, tt_al 0 65),
  (65, tt_gf evLY 6 4 68),
  (68, tt_cV evLY 4 0 ev_r pre_R_result post_R_result 71),
  (71, tt_il 2 72),
  (72, tt_cV evLY 2 2 ev_i pre_M_execute post_M_execute 75),
  (75, tt_ri P),
  (76, tt_al 0 77),
  (77, tt_gf evLY 6 5 80),
  (80, tt_al 0 81),
  (81, tt_gf evLY 6 0 84),
  (84, tt_il 2 85),
  (85, tt_al 0 86),
  (86, tt_gf evLY 6 3 89),
  (89, tt_cV evLY 2 3 ev_i pre_M_executeWatched post_M_executeWatched 92),
  (92, tt_ri P)]
abbrev rm_B_run : Room := { frames := 7, cells := 1, slots := 6, locals := 224 }
set_option maxRecDepth 20000 in
theorem ok_B_run (l : Launch) (J : ev_K) (P : Int32 → ev_M → ev_L → Prop) (PX : Nat → ev_M → ev_L → Prop) (X : ev_X l rm_B_run evLY evCl ws_B_run prog_1_method_10_code 3 y_B_run.cls J) (Z : ev_Z J prog_1_method_10_code .ireturn ev_i P) (T : ex_Z J prog_1_method_10_code PX) : ev_oks J (I_B_run P PX) :=
  ⟨qq_iln X 2 rfl d_B_run_0,
  qq_iflt X 11 (by decide) d_B_run_1,
  qq_iln X 2 rfl d_B_run_4,
  qq_sp X 3000 (by decide) d_B_run_5,
  qq_icle X 21 (by decide) d_B_run_8,
  qq_th T 1 (by decide) (List.mem_of_getElem? (i := 11) rfl) d_B_run_11 d_B_run_14 d_B_run_15 d_B_run_17 d_B_run_20,
  qq_iln X 1 rfl d_B_run_21,
  qq_ifeq X 45 (by decide) d_B_run_22,
  qq_aln X 0 rfl d_B_run_25,
  qq_gf X 6 4 rfl (fun w h => List.mem_cons_of_mem _ (inE_B w h)) (by decide) (List.mem_cons_of_mem _ mw_197) d_B_run_26,
  qq_cV X 4 rfl (c_R_exists l) (fun hts => cwV 0 hts (evGV (mw_589) (mw_590) (mw_591) (mw_6) (mw_592)) rfl rfl rfl (by decide +kernel) ⟨Nat.le_of_ble_eq_true rfl, Nat.le_of_ble_eq_true rfl⟩) d_B_run_29,
  qq_ifne X 45 (by decide) d_B_run_32,
  qq_th T 2 (by decide) (List.mem_of_getElem? (i := 10) rfl) d_B_run_35 d_B_run_38 d_B_run_39 d_B_run_41 d_B_run_44,
  qq_aln X 0 rfl d_B_run_45,
  qq_gf X 6 5 rfl (fun w h => List.mem_cons_of_mem _ (inE_B w h)) (by decide) (List.mem_cons_of_mem _ mw_198) d_B_run_46,
  qq_aln X 0 rfl d_B_run_49,
  qq_gf X 6 2 rfl (fun w h => List.mem_cons_of_mem _ (inE_B w h)) (by decide) (List.mem_cons_of_mem _ mw_195) d_B_run_50,
  qq_cV X 2 rfl (c_M_start l) (fun hts => cwV 1 hts (evGV (mw_607) (mw_608) (mw_609) (mw_7) (mw_610)) rfl rfl rfl (by decide +kernel) ⟨Nat.le_of_ble_eq_true rfl, Nat.le_of_ble_eq_true rfl⟩) d_B_run_53,
  qq_iln X 1 rfl d_B_run_56,
  qq_ifeq X 76 (by decide) d_B_run_57,
  qq_aln X 0 rfl d_B_run_60,
  qq_gf X 6 5 rfl (fun w h => List.mem_cons_of_mem _ (inE_B w h)) (by decide) (List.mem_cons_of_mem _ mw_198) d_B_run_61,
  qq_aln X 0 rfl d_B_run_64,
  qq_gf X 6 4 rfl (fun w h => List.mem_cons_of_mem _ (inE_B w h)) (by decide) (List.mem_cons_of_mem _ mw_197) d_B_run_65,
  qq_cV X 4 rfl (c_R_result l) (fun hts => cwV 0 hts (evGV (mw_594) (mw_595) (mw_596) (mw_6) (mw_597)) rfl rfl rfl (by decide +kernel) ⟨Nat.le_of_ble_eq_true rfl, Nat.le_of_ble_eq_true rfl⟩) d_B_run_68,
  qq_iln X 2 rfl d_B_run_71,
  qq_cV X 2 rfl (c_M_execute l) (fun hts => cwV 2 hts (evGV (mw_616) (mw_617) (mw_618) (mw_7) (mw_619)) rfl rfl rfl (by decide +kernel) ⟨Nat.le_of_ble_eq_true rfl, Nat.le_of_ble_eq_true rfl⟩) d_B_run_72,
  qq_ri Z d_B_run_75,
  qq_aln X 0 rfl d_B_run_76,
  qq_gf X 6 5 rfl (fun w h => List.mem_cons_of_mem _ (inE_B w h)) (by decide) (List.mem_cons_of_mem _ mw_198) d_B_run_77,
  qq_aln X 0 rfl d_B_run_80,
  qq_gf X 6 0 rfl (fun w h => List.mem_cons_of_mem _ (inE_B w h)) (by decide) (List.mem_cons_of_mem _ mw_193) d_B_run_81,
  qq_iln X 2 rfl d_B_run_84,
  qq_aln X 0 rfl d_B_run_85,
  qq_gf X 6 3 rfl (fun w h => List.mem_cons_of_mem _ (inE_B w h)) (by decide) (List.mem_cons_of_mem _ mw_196) d_B_run_86,
  qq_cV X 2 rfl (c_M_executeWatched l) (fun hts => cwV 3 hts (evGV (mw_679) (mw_680) (mw_681) (mw_7) (mw_682)) rfl rfl rfl (by decide +kernel) ⟨Nat.le_of_ble_eq_true rfl, Nat.le_of_ble_eq_true rfl⟩) d_B_run_89,
  qq_ri Z d_B_run_92, trivial⟩
set_option maxHeartbeats 4000000 in
set_option maxRecDepth 100000 in
theorem c_B_run (l : Launch) (hst : l.stackTraces = false) : ex_C ev_i l y_B_run ws_B_run rm_B_run evLY evCl pre_B_run post_B_run px_B_run := by
  refine ex_meth0 hst rfl (by decide) rfl ev_rop_i ?_ (by decide) I_B_run (ok_B_run l) 60 ?_
  · rintro _ σ τ ⟨z, m, rfl, hp⟩
    exact Nat.le_of_ble_eq_true rfl
  · rintro _ σ τ ⟨z, m, rfl, hs, hby, htr, hc, hrw⟩
    have no : (¬ (0 ≤ m ∧ m ≤ 3000)) → px_B_run [.ref 0, .int z, .int m] σ τ 1 σ τ := fun h => ⟨Or.inl ⟨rfl, h⟩, rfl, rfl⟩
    refine br_c (fun h => ?_) (fun h => ?_)
    · exact no (fun q => absurd q.1 (Int32.not_le.mpr h))
    · refine br_c (fun h2 => ?_) (fun h2 => ?_)
      · have hm : 0 ≤ m ∧ m ≤ 3000 := ⟨i_ge0 h, h2⟩
        have h3000 : (3000 : Int32).toInt = 3000 := rfl
        have hm2 := Int32.le_iff_toInt_le.mp h2
        obtain ⟨j, hj, rfl⟩ := nI_of h
        rw [nI_toInt hj] at hm2
        by_cases hz : z = 0
        · refine br_t hz ?_
          refine ⟨rfl, ?_⟩
          rintro _ σ1 τ1 ⟨hb, hf⟩
          refine br_t hz ?_
          have e2 : σ1 2 = σ 2 := hf.1 2 (by omega)
          have e3 : σ1 3 = σ 3 := hf.1 3 (by omega)
          have e8 : σ1 8 = σ 8 := hf.1 8 (by omega)
          have e14 : σ1 14 = σ 14 := hf.1 14 (by omega)
          have e15 : σ1 15 = σ 15 := hf.1 15 (by omega)
          refine ⟨⟨j, rfl, by omega, by rw [e2]; exact hby, by rw [e3]; exact htr, by rw [hb]; exact ms_begin_R _ _, by rw [e8]; exact hc⟩, ?_⟩
          rintro r σ2 τ2 ⟨hr, hf2⟩
          rw [e2, e3, e8, e14, e15, hb] at hr
          exact ⟨hm, Or.inl ⟨hz, hr⟩, frC_tr hf hf2⟩
        · refine br_f hz ?_
          refine ⟨⟨rfl, hs⟩, ?_⟩
          rintro r σ τ ⟨rfl, rfl, rfl⟩
          by_cases h1 : σ 18 3 = 1
          · refine br_nt (by rw [decide_eq_true h1]; decide) ?_
            refine ⟨rfl, ?_⟩
            rintro _ σ1 τ1 ⟨hb, hf⟩
            refine br_f hz ?_
            refine ⟨rfl, ?_⟩
            rintro r σ1 τ1 ⟨rfl, rfl, rfl⟩
            have e21 : σ1 21 = σ 21 := hf.1 21 (by omega)
            have e22 : σ1 22 = σ 22 := hf.1 22 (by omega)
            obtain ⟨y1, y2⟩ := hrw h1
            refine ⟨⟨20, j, rfl, Or.inr rfl, by omega, by show byF (σ1 21); rw [e21]; exact y1, by show trF (sp_trap (σ1 22)); rw [e22]; exact y2, by rw [hb]; exact ms_begin_R _ _⟩, ?_⟩
            rintro r σ2 τ2 ⟨hr, hf2⟩
            have hr' : (r, mvC σ2 τ2) = ms_run (σ1 21) (sp_trap (σ1 22)) (fun x => x) (nI j).toNatClampNeg (mvC σ1 τ1) := hr
            rw [e21, e22, hb] at hr'
            exact ⟨hm, Or.inr ⟨hz, h1, hr'⟩, frC_tr hf hf2⟩
          · refine br_nf (by rw [decide_eq_false h1]; rfl) ?_
            exact ⟨Or.inr ⟨rfl, hm, hz, h1⟩, rfl, rfl⟩
      · exact no (fun q => h2 q.2)
