/-! the face's walks, on -/
def y_B_declare : MethodName := ⟨RX6, "declare", "(II)I"⟩
def ws_B_declare : List Cond := .code y_B_declare prog_1_method_3_code 3 (some .int) :: evW
theorem d_B_declare_0 : decode prog_1_method_3_code 0 = .ok (.iload_n 2, 1) := by decide +kernel
theorem d_B_declare_1 : decode prog_1_method_3_code 1 = .ok (.iconst 1, 1) := by decide +kernel
theorem d_B_declare_2 : decode prog_1_method_3_code 2 = .ok (.if_icmp .lt 21, 3) := by decide +kernel
theorem d_B_declare_5 : decode prog_1_method_3_code 5 = .ok (.iload_n 2, 1) := by decide +kernel
theorem d_B_declare_6 : decode prog_1_method_3_code 6 = .ok (.bipush 96, 2) := by decide +kernel
theorem d_B_declare_8 : decode prog_1_method_3_code 8 = .ok (.if_icmp .gt 15, 3) := by decide +kernel
theorem d_B_declare_11 : decode prog_1_method_3_code 11 = .ok (.iload_n 1, 1) := by decide +kernel
theorem d_B_declare_12 : decode prog_1_method_3_code 12 = .ok (.ifCond .lt 11, 3) := by decide +kernel
theorem d_B_declare_15 : decode prog_1_method_3_code 15 = .ok (.iload_n 1, 1) := by decide +kernel
theorem d_B_declare_16 : decode prog_1_method_3_code 16 = .ok (.bipush 96, 2) := by decide +kernel
theorem d_B_declare_18 : decode prog_1_method_3_code 18 = .ok (.iload_n 2, 1) := by decide +kernel
theorem d_B_declare_19 : decode prog_1_method_3_code 19 = .ok (.isub, 1) := by decide +kernel
theorem d_B_declare_20 : decode prog_1_method_3_code 20 = .ok (.if_icmp .le 13, 3) := by decide +kernel
theorem d_B_declare_23 : decode prog_1_method_3_code 23 = .ok (.new 62, 3) := by decide +kernel
theorem d_B_declare_26 : decode prog_1_method_3_code 26 = .ok (.dup, 1) := by decide +kernel
theorem d_B_declare_27 : decode prog_1_method_3_code 27 = .ok (.ldc 64, 2) := by decide +kernel
theorem d_B_declare_29 : decode prog_1_method_3_code 29 = .ok (.invokespecial 66, 3) := by decide +kernel
theorem d_B_declare_32 : decode prog_1_method_3_code 32 = .ok (.athrow, 1) := by decide +kernel
theorem d_B_declare_33 : decode prog_1_method_3_code 33 = .ok (.aload_n 0, 1) := by decide +kernel
theorem d_B_declare_34 : decode prog_1_method_3_code 34 = .ok (.getfield 19, 3) := by decide +kernel
theorem d_B_declare_37 : decode prog_1_method_3_code 37 = .ok (.invokevirtual 67, 3) := by decide +kernel
theorem d_B_declare_40 : decode prog_1_method_3_code 40 = .ok (.ifCond .eq 13, 3) := by decide +kernel
theorem d_B_declare_43 : decode prog_1_method_3_code 43 = .ok (.new 71, 3) := by decide +kernel
theorem d_B_declare_46 : decode prog_1_method_3_code 46 = .ok (.dup, 1) := by decide +kernel
theorem d_B_declare_47 : decode prog_1_method_3_code 47 = .ok (.ldc 73, 2) := by decide +kernel
theorem d_B_declare_49 : decode prog_1_method_3_code 49 = .ok (.invokespecial 75, 3) := by decide +kernel
theorem d_B_declare_52 : decode prog_1_method_3_code 52 = .ok (.athrow, 1) := by decide +kernel
theorem d_B_declare_53 : decode prog_1_method_3_code 53 = .ok (.aload_n 0, 1) := by decide +kernel
theorem d_B_declare_54 : decode prog_1_method_3_code 54 = .ok (.getfield 19, 3) := by decide +kernel
theorem d_B_declare_57 : decode prog_1_method_3_code 57 = .ok (.iload_n 1, 1) := by decide +kernel
theorem d_B_declare_58 : decode prog_1_method_3_code 58 = .ok (.iload_n 2, 1) := by decide +kernel
theorem d_B_declare_59 : decode prog_1_method_3_code 59 = .ok (.invokevirtual 76, 3) := by decide +kernel
theorem d_B_declare_62 : decode prog_1_method_3_code 62 = .ok (.aload_n 0, 1) := by decide +kernel
theorem d_B_declare_63 : decode prog_1_method_3_code 63 = .ok (.invokevirtual 59, 3) := by decide +kernel
theorem d_B_declare_66 : decode prog_1_method_3_code 66 = .ok (.aload_n 0, 1) := by decide +kernel
theorem d_B_declare_67 : decode prog_1_method_3_code 67 = .ok (.getfield 19, 3) := by decide +kernel
theorem d_B_declare_70 : decode prog_1_method_3_code 70 = .ok (.invokevirtual 79, 3) := by decide +kernel
theorem d_B_declare_73 : decode prog_1_method_3_code 73 = .ok (.ireturn, 1) := by decide +kernel
def I_B_declare (P : Int32 → ev_M → ev_L → Prop) (PX : Nat → ev_M → ev_L → Prop) : List (Nat × ev_T) := [(0, tt_il 2 1),
  (1, tt_k 1 2),
  (2, tt_iclt 23 5),
  (5, tt_il 2 6),
  (6, tt_k 96 8),
  (8, tt_icgt 23 11),
  (11, tt_il 1 12),
  (12, tt_iflt 23 15),
  (15, tt_il 1 16),
  (16, tt_k 96 18),
  (18, tt_il 2 19),
  (19, tt_isub 20),
  (20, tt_icle 33 23),
  (23, tt_th 1 PX),
  (33, tt_al 0 34),
  (34, tt_gf evLY 6 1 37),
  (37, tt_cV evLY 5 0 ev_b pre_T_isFull post_T_isFull 40),
  (40, tt_ifeq 53 43),
  (43, tt_th 2 PX),
  (53, tt_al 0 54),
  (54, tt_gf evLY 6 1 57),
  (57, tt_il 1 58),
  (58, tt_il 2 59),
  (59, tt_cV evLY 5 2 ev_n pre_T_add post_T_add 62),
  (62, tt_al 0 63),
  (63, tt_cV evLY 6 0 ev_n pre_B_forgetFindings post_B_forgetFindings 66),
  (66, tt_al 0 67),
  (67, tt_gf evLY 6 1 70),
  (70, tt_cV evLY 5 0 ev_i pre_T_size post_T_size 73),
  (73, tt_ri P)]
abbrev rm_B_declare : Room := { frames := 6, cells := 1, slots := 6, locals := 192 }
set_option maxRecDepth 20000 in
theorem ok_B_declare (l : Launch) (J : ev_K) (P : Int32 → ev_M → ev_L → Prop) (PX : Nat → ev_M → ev_L → Prop) (X : ev_X l rm_B_declare evLY evCl ws_B_declare prog_1_method_3_code 3 y_B_declare.cls J) (Z : ev_Z J prog_1_method_3_code .ireturn ev_i P) (T : ex_Z J prog_1_method_3_code PX) : ev_oks J (I_B_declare P PX) :=
  ⟨qq_iln X 2 rfl d_B_declare_0,
  qq_ic X 1 (by decide) d_B_declare_1,
  qq_iclt X 23 (by decide) d_B_declare_2,
  qq_iln X 2 rfl d_B_declare_5,
  qq_bp X 96 (by decide) d_B_declare_6,
  qq_icgt X 23 (by decide) d_B_declare_8,
  qq_iln X 1 rfl d_B_declare_11,
  qq_iflt X 23 (by decide) d_B_declare_12,
  qq_iln X 1 rfl d_B_declare_15,
  qq_bp X 96 (by decide) d_B_declare_16,
  qq_iln X 2 rfl d_B_declare_18,
  qq_isub X d_B_declare_19,
  qq_icle X 33 (by decide) d_B_declare_20,
  qq_th T 1 (by decide) (List.mem_of_getElem? (i := 1) rfl) d_B_declare_23 d_B_declare_26 d_B_declare_27 d_B_declare_29 d_B_declare_32,
  qq_aln X 0 rfl d_B_declare_33,
  qq_gf X 6 1 rfl (fun w h => List.mem_cons_of_mem _ (inE_B w h)) (by decide) (List.mem_cons_of_mem _ mw_194) d_B_declare_34,
  qq_cV X 5 rfl (c_T_isFull l) (fun hts => cwV 0 hts (evGV (mw_350) (mw_351) (mw_352) (mw_3) (mw_353)) rfl rfl rfl (by decide +kernel) ⟨Nat.le_of_ble_eq_true rfl, Nat.le_of_ble_eq_true rfl⟩) d_B_declare_37,
  qq_ifeq X 53 (by decide) d_B_declare_40,
  qq_th T 2 (by decide) (List.mem_of_getElem? (i := 2) rfl) d_B_declare_43 d_B_declare_46 d_B_declare_47 d_B_declare_49 d_B_declare_52,
  qq_aln X 0 rfl d_B_declare_53,
  qq_gf X 6 1 rfl (fun w h => List.mem_cons_of_mem _ (inE_B w h)) (by decide) (List.mem_cons_of_mem _ mw_194) d_B_declare_54,
  qq_iln X 1 rfl d_B_declare_57,
  qq_iln X 2 rfl d_B_declare_58,
  qq_cV X 5 rfl (c_T_add l) (fun hts => cwV 2 hts (evGV (mw_370) (mw_371) (mw_372) (mw_3) (mw_373)) rfl rfl rfl (by decide +kernel) ⟨Nat.le_of_ble_eq_true rfl, Nat.le_of_ble_eq_true rfl⟩) d_B_declare_59,
  qq_aln X 0 rfl d_B_declare_62,
  qq_cV X 6 rfl (c_B_forgetFindings l) (fun hts => cwV 0 hts (evGV (mw_313) (mw_315) (mp_1) (mw_1) (mw_316)) rfl rfl rfl (by decide +kernel) ⟨Nat.le_of_ble_eq_true rfl, Nat.le_of_ble_eq_true rfl⟩) d_B_declare_63,
  qq_aln X 0 rfl d_B_declare_66,
  qq_gf X 6 1 rfl (fun w h => List.mem_cons_of_mem _ (inE_B w h)) (by decide) (List.mem_cons_of_mem _ mw_194) d_B_declare_67,
  qq_cV X 5 rfl (c_T_size l) (fun hts => cwV 0 hts (evGV (mw_375) (mw_376) (mw_377) (mw_3) (mw_378)) rfl rfl rfl (by decide +kernel) ⟨Nat.le_of_ble_eq_true rfl, Nat.le_of_ble_eq_true rfl⟩) d_B_declare_70,
  qq_ri Z d_B_declare_73, trivial⟩
set_option maxHeartbeats 4000000 in
set_option maxRecDepth 100000 in
theorem c_B_declare (l : Launch) (hst : l.stackTraces = false) : ex_C ev_i l y_B_declare ws_B_declare rm_B_declare evLY evCl pre_B_declare post_B_declare px_B_declare := by
  refine ex_meth0 hst rfl (by decide) rfl ev_rop_i ?_ (by decide) I_B_declare (ok_B_declare l) 60 ?_
  · rintro _ σ τ ⟨b, c, rfl, hp⟩
    exact Nat.le_of_ble_eq_true rfl
  · rintro _ σ τ ⟨b, c, rfl, n, n4, en⟩
    have no : ¬ sd_okT b c → px_B_declare [.ref 0, .int b, .int c] σ τ 1 σ τ := fun h => ⟨Or.inl ⟨rfl, h⟩, rfl, rfl⟩
    refine br_c (fun h => ?_) (fun h => ?_)
    · exact no (fun q => absurd q.1 (Int32.not_le.mpr h))
    · refine br_c (fun h2 => ?_) (fun h2 => ?_)
      · exact no (fun q => absurd q.2.1 (Int32.not_le.mpr h2))
      · refine br_c (fun h3 => ?_) (fun h3 => ?_)
        · exact no (fun q => absurd q.2.2.1 (Int32.not_le.mpr h3))
        · refine br_c (fun h4 => ?_) (fun h4 => ?_)
          · have ok : sd_okT b c := ⟨Int32.not_lt.mp h, Int32.not_lt.mp h2, Int32.not_lt.mp h3, h4⟩
            refine ⟨rfl, ?_⟩
            rintro r σ τ ⟨rfl, rfl, rfl⟩
            by_cases hf : (4 : Int32) ≤ σ 4 2
            · refine br_f (by rw [decide_eq_true hf]; decide) ?_
              exact ⟨Or.inr ⟨rfl, ok, hf⟩, rfl, rfl⟩
            · refine br_t (by rw [decide_eq_false hf]; rfl) ?_
              have hlt := Int32.not_le.mp hf
              refine ⟨⟨b, c, rfl, by rw [en, Int32.le_iff_toInt_le, nI_toInt (by omega)]; exact Int.natCast_nonneg n, hlt⟩, ?_⟩
              rintro _ σ1 τ ⟨rfl, rfl⟩
              refine ⟨rfl, ?_⟩
              rintro _ σ1 τ ⟨rfl, rfl⟩
              refine ⟨rfl, ?_⟩
              rintro r σ τ ⟨rfl, rfl, rfl⟩
              exact ⟨ok, hf, rfl, rfl, rfl⟩
          · exact no (fun q => h4 q.2.2.2)
def y_B_analyse : MethodName := ⟨RX6, "analyse", "()I"⟩
def ws_B_analyse : List Cond := .code y_B_analyse prog_1_method_5_code 1 (some .int) :: evW
theorem d_B_analyse_0 : decode prog_1_method_5_code 0 = .ok (.aload_n 0, 1) := by decide +kernel
theorem d_B_analyse_1 : decode prog_1_method_5_code 1 = .ok (.getfield 37, 3) := by decide +kernel
theorem d_B_analyse_4 : decode prog_1_method_5_code 4 = .ok (.invokevirtual 85, 3) := by decide +kernel
theorem d_B_analyse_7 : decode prog_1_method_5_code 7 = .ok (.aload_n 0, 1) := by decide +kernel
theorem d_B_analyse_8 : decode prog_1_method_5_code 8 = .ok (.getfield 30, 3) := by decide +kernel
theorem d_B_analyse_11 : decode prog_1_method_5_code 11 = .ok (.aload_n 0, 1) := by decide +kernel
theorem d_B_analyse_12 : decode prog_1_method_5_code 12 = .ok (.getfield 10, 3) := by decide +kernel
theorem d_B_analyse_15 : decode prog_1_method_5_code 15 = .ok (.aload_n 0, 1) := by decide +kernel
theorem d_B_analyse_16 : decode prog_1_method_5_code 16 = .ok (.getfield 19, 3) := by decide +kernel
theorem d_B_analyse_19 : decode prog_1_method_5_code 19 = .ok (.invokevirtual 88, 3) := by decide +kernel
theorem d_B_analyse_22 : decode prog_1_method_5_code 22 = .ok (.ifCond .ne 13, 3) := by decide +kernel
theorem d_B_analyse_25 : decode prog_1_method_5_code 25 = .ok (.new 92, 3) := by decide +kernel
theorem d_B_analyse_28 : decode prog_1_method_5_code 28 = .ok (.dup, 1) := by decide +kernel
theorem d_B_analyse_29 : decode prog_1_method_5_code 29 = .ok (.ldc 94, 2) := by decide +kernel
theorem d_B_analyse_31 : decode prog_1_method_5_code 31 = .ok (.invokespecial 96, 3) := by decide +kernel
theorem d_B_analyse_34 : decode prog_1_method_5_code 34 = .ok (.athrow, 1) := by decide +kernel
theorem d_B_analyse_35 : decode prog_1_method_5_code 35 = .ok (.aload_n 0, 1) := by decide +kernel
theorem d_B_analyse_36 : decode prog_1_method_5_code 36 = .ok (.getfield 30, 3) := by decide +kernel
theorem d_B_analyse_39 : decode prog_1_method_5_code 39 = .ok (.invokevirtual 97, 3) := by decide +kernel
theorem d_B_analyse_42 : decode prog_1_method_5_code 42 = .ok (.ireturn, 1) := by decide +kernel
def I_B_analyse (P : Int32 → ev_M → ev_L → Prop) (PX : Nat → ev_M → ev_L → Prop) : List (Nat × ev_T) := [(0, tt_al 0 1),
  (1, tt_gf evLY 6 4 4),
  (4, tt_cV evLY 4 0 ev_n pre_R_forget post_R_forget 7),
  (7, tt_al 0 8),
  (8, tt_gf evLY 6 3 11),
  (11, tt_al 0 12),
  (12, tt_gf evLY 6 0 15),
  (15, tt_al 0 16),
  (16, tt_gf evLY 6 1 19),
  (19, tt_cV evLY 0 2 ev_b pre_A_explore post_A_explore 22),
  (22, tt_ifne 35 25),
  (25, tt_th 3 PX),
  (35, tt_al 0 36),
  (36, tt_gf evLY 6 3 39),
  (39, tt_cV evLY 0 0 ev_i pre_A_size post_A_size 42),
  (42, tt_ri P)]
abbrev rm_B_analyse : Room := { frames := 6, cells := 1, slots := 6, locals := 192 }
set_option maxRecDepth 20000 in
theorem ok_B_analyse (l : Launch) (J : ev_K) (P : Int32 → ev_M → ev_L → Prop) (PX : Nat → ev_M → ev_L → Prop) (X : ev_X l rm_B_analyse evLY evCl ws_B_analyse prog_1_method_5_code 1 y_B_analyse.cls J) (Z : ev_Z J prog_1_method_5_code .ireturn ev_i P) (T : ex_Z J prog_1_method_5_code PX) : ev_oks J (I_B_analyse P PX) :=
  ⟨qq_aln X 0 rfl d_B_analyse_0,
  qq_gf X 6 4 rfl (fun w h => List.mem_cons_of_mem _ (inE_B w h)) (by decide) (List.mem_cons_of_mem _ mw_197) d_B_analyse_1,
  qq_cV X 4 rfl (c_R_forget l) (fun hts => cwV 0 hts (evGV (mw_321) (mw_322) (mw_323) (mw_6) (mw_324)) rfl rfl rfl (by decide +kernel) ⟨Nat.le_of_ble_eq_true rfl, Nat.le_of_ble_eq_true rfl⟩) d_B_analyse_4,
  qq_aln X 0 rfl d_B_analyse_7,
  qq_gf X 6 3 rfl (fun w h => List.mem_cons_of_mem _ (inE_B w h)) (by decide) (List.mem_cons_of_mem _ mw_196) d_B_analyse_8,
  qq_aln X 0 rfl d_B_analyse_11,
  qq_gf X 6 0 rfl (fun w h => List.mem_cons_of_mem _ (inE_B w h)) (by decide) (List.mem_cons_of_mem _ mw_193) d_B_analyse_12,
  qq_aln X 0 rfl d_B_analyse_15,
  qq_gf X 6 1 rfl (fun w h => List.mem_cons_of_mem _ (inE_B w h)) (by decide) (List.mem_cons_of_mem _ mw_194) d_B_analyse_16,
  qq_cV X 0 rfl (c_A_explore l) (fun hts => cwV 2 hts (evGV (mw_395) (mw_396) (mw_397) (mw_4) (mw_398)) rfl rfl rfl (by decide +kernel) ⟨Nat.le_of_ble_eq_true rfl, Nat.le_of_ble_eq_true rfl⟩) d_B_analyse_19,
  qq_ifne X 35 (by decide) d_B_analyse_22,
  qq_th T 3 (by decide) (List.mem_of_getElem? (i := 4) rfl) d_B_analyse_25 d_B_analyse_28 d_B_analyse_29 d_B_analyse_31 d_B_analyse_34,
  qq_aln X 0 rfl d_B_analyse_35,
  qq_gf X 6 3 rfl (fun w h => List.mem_cons_of_mem _ (inE_B w h)) (by decide) (List.mem_cons_of_mem _ mw_196) d_B_analyse_36,
  qq_cV X 0 rfl (c_A_size l) (fun hts => cwV 0 hts (evGV (mw_487) (mw_488) (mw_489) (mw_4) (mw_490)) rfl rfl rfl (by decide +kernel) ⟨Nat.le_of_ble_eq_true rfl, Nat.le_of_ble_eq_true rfl⟩) d_B_analyse_39,
  qq_ri Z d_B_analyse_42, trivial⟩
set_option maxHeartbeats 4000000 in
set_option maxRecDepth 100000 in
theorem c_B_analyse (l : Launch) (hst : l.stackTraces = false) : ex_C ev_i l y_B_analyse ws_B_analyse rm_B_analyse evLY evCl pre_B_analyse post_B_analyse px_B_analyse := by
  refine ex_meth0 hst rfl (by decide) rfl ev_rop_i ?_ (by decide) I_B_analyse (ok_B_analyse l) 60 ?_
  · rintro _ σ τ ⟨rfl, hp⟩
    exact Nat.le_of_ble_eq_true rfl
  · rintro _ σ τ ⟨rfl, hD, hby⟩
    refine ⟨rfl, ?_⟩
    rintro _ σ1 τ ⟨rfl, rfl⟩
    refine ⟨⟨rfl, hD, hby⟩, ?_⟩
    rintro r σ2 τ ⟨rfl, hF, ⟨rfl, hT⟩ | ⟨rfl, hN⟩⟩
    · refine br_nt (by decide) ?_
      refine ⟨rfl, ?_⟩
      rintro r σ2 τ ⟨rfl, rfl, rfl⟩
      exact ⟨hF, hT, rfl, rfl⟩
    · refine br_nf rfl ?_
      exact ⟨rfl, hF, hN, rfl⟩
def y_B_rewrite : MethodName := ⟨RX6, "rewrite", "()I"⟩
def ws_B_rewrite : List Cond := .code y_B_rewrite prog_1_method_8_code 1 (some .int) :: evW
theorem d_B_rewrite_0 : decode prog_1_method_8_code 0 = .ok (.aload_n 0, 1) := by decide +kernel
theorem d_B_rewrite_1 : decode prog_1_method_8_code 1 = .ok (.getfield 30, 3) := by decide +kernel
theorem d_B_rewrite_4 : decode prog_1_method_8_code 4 = .ok (.invokevirtual 115, 3) := by decide +kernel
theorem d_B_rewrite_7 : decode prog_1_method_8_code 7 = .ok (.ifCond .ne 13, 3) := by decide +kernel
theorem d_B_rewrite_10 : decode prog_1_method_8_code 10 = .ok (.new 71, 3) := by decide +kernel
theorem d_B_rewrite_13 : decode prog_1_method_8_code 13 = .ok (.dup, 1) := by decide +kernel
theorem d_B_rewrite_14 : decode prog_1_method_8_code 14 = .ok (.ldc 118, 2) := by decide +kernel
theorem d_B_rewrite_16 : decode prog_1_method_8_code 16 = .ok (.invokespecial 75, 3) := by decide +kernel
theorem d_B_rewrite_19 : decode prog_1_method_8_code 19 = .ok (.athrow, 1) := by decide +kernel
theorem d_B_rewrite_20 : decode prog_1_method_8_code 20 = .ok (.aload_n 0, 1) := by decide +kernel
theorem d_B_rewrite_21 : decode prog_1_method_8_code 21 = .ok (.getfield 37, 3) := by decide +kernel
theorem d_B_rewrite_24 : decode prog_1_method_8_code 24 = .ok (.aload_n 0, 1) := by decide +kernel
theorem d_B_rewrite_25 : decode prog_1_method_8_code 25 = .ok (.getfield 10, 3) := by decide +kernel
theorem d_B_rewrite_28 : decode prog_1_method_8_code 28 = .ok (.aload_n 0, 1) := by decide +kernel
theorem d_B_rewrite_29 : decode prog_1_method_8_code 29 = .ok (.getfield 30, 3) := by decide +kernel
theorem d_B_rewrite_32 : decode prog_1_method_8_code 32 = .ok (.invokevirtual 120, 3) := by decide +kernel
theorem d_B_rewrite_35 : decode prog_1_method_8_code 35 = .ok (.ifCond .ne 13, 3) := by decide +kernel
theorem d_B_rewrite_38 : decode prog_1_method_8_code 38 = .ok (.new 92, 3) := by decide +kernel
theorem d_B_rewrite_41 : decode prog_1_method_8_code 41 = .ok (.dup, 1) := by decide +kernel
theorem d_B_rewrite_42 : decode prog_1_method_8_code 42 = .ok (.ldc 124, 2) := by decide +kernel
theorem d_B_rewrite_44 : decode prog_1_method_8_code 44 = .ok (.invokespecial 96, 3) := by decide +kernel
theorem d_B_rewrite_47 : decode prog_1_method_8_code 47 = .ok (.athrow, 1) := by decide +kernel
theorem d_B_rewrite_48 : decode prog_1_method_8_code 48 = .ok (.aload_n 0, 1) := by decide +kernel
theorem d_B_rewrite_49 : decode prog_1_method_8_code 49 = .ok (.getfield 37, 3) := by decide +kernel
theorem d_B_rewrite_52 : decode prog_1_method_8_code 52 = .ok (.invokevirtual 126, 3) := by decide +kernel
theorem d_B_rewrite_55 : decode prog_1_method_8_code 55 = .ok (.ireturn, 1) := by decide +kernel
def I_B_rewrite (P : Int32 → ev_M → ev_L → Prop) (PX : Nat → ev_M → ev_L → Prop) : List (Nat × ev_T) := [(0, tt_al 0 1),
  (1, tt_gf evLY 6 3 4),
  (4, tt_cV evLY 0 0 ev_b pre_A_exists post_A_exists 7),
  (7, tt_ifne 20 10),
  (10, tt_th 2 PX),
  (20, tt_al 0 21),
  (21, tt_gf evLY 6 4 24),
  (24, tt_al 0 25),
  (25, tt_gf evLY 6 0 28),
  (28, tt_al 0 29),
  (29, tt_gf evLY 6 3 32),
  (32, tt_cV evLY 4 2 ev_b pre_R_build post_R_build 35),
  (35, tt_ifne 48 38),
  (38, tt_th 3 PX),
  (48, tt_al 0 49),
  (49, tt_gf evLY 6 4 52),
  (52, tt_cV evLY 4 0 ev_i pre_R_used post_R_used 55),
  (55, tt_ri P)]
abbrev rm_B_rewrite : Room := { frames := 6, cells := 1, slots := 6, locals := 192 }
set_option maxRecDepth 20000 in
theorem ok_B_rewrite (l : Launch) (J : ev_K) (P : Int32 → ev_M → ev_L → Prop) (PX : Nat → ev_M → ev_L → Prop) (X : ev_X l rm_B_rewrite evLY evCl ws_B_rewrite prog_1_method_8_code 1 y_B_rewrite.cls J) (Z : ev_Z J prog_1_method_8_code .ireturn ev_i P) (T : ex_Z J prog_1_method_8_code PX) : ev_oks J (I_B_rewrite P PX) :=
  ⟨qq_aln X 0 rfl d_B_rewrite_0,
  qq_gf X 6 3 rfl (fun w h => List.mem_cons_of_mem _ (inE_B w h)) (by decide) (List.mem_cons_of_mem _ mw_196) d_B_rewrite_1,
  qq_cV X 0 rfl (c_A_exists l) (fun hts => cwV 0 hts (evGV (mw_519) (mw_221) (mw_222) (mw_4) (mw_223)) rfl rfl rfl (by decide +kernel) ⟨Nat.le_of_ble_eq_true rfl, Nat.le_of_ble_eq_true rfl⟩) d_B_rewrite_4,
  qq_ifne X 20 (by decide) d_B_rewrite_7,
  qq_th T 2 (by decide) (List.mem_of_getElem? (i := 7) rfl) d_B_rewrite_10 d_B_rewrite_13 d_B_rewrite_14 d_B_rewrite_16 d_B_rewrite_19,
  qq_aln X 0 rfl d_B_rewrite_20,
  qq_gf X 6 4 rfl (fun w h => List.mem_cons_of_mem _ (inE_B w h)) (by decide) (List.mem_cons_of_mem _ mw_197) d_B_rewrite_21,
  qq_aln X 0 rfl d_B_rewrite_24,
  qq_gf X 6 0 rfl (fun w h => List.mem_cons_of_mem _ (inE_B w h)) (by decide) (List.mem_cons_of_mem _ mw_193) d_B_rewrite_25,
  qq_aln X 0 rfl d_B_rewrite_28,
  qq_gf X 6 3 rfl (fun w h => List.mem_cons_of_mem _ (inE_B w h)) (by decide) (List.mem_cons_of_mem _ mw_196) d_B_rewrite_29,
  qq_cV X 4 rfl (c_R_build l) (fun hts => cwV 2 hts (evGV (mw_521) (mw_522) (mw_523) (mw_6) (mw_524)) rfl rfl rfl (by decide +kernel) ⟨Nat.le_of_ble_eq_true rfl, Nat.le_of_ble_eq_true rfl⟩) d_B_rewrite_32,
  qq_ifne X 48 (by decide) d_B_rewrite_35,
  qq_th T 3 (by decide) (List.mem_of_getElem? (i := 8) rfl) d_B_rewrite_38 d_B_rewrite_41 d_B_rewrite_42 d_B_rewrite_44 d_B_rewrite_47,
  qq_aln X 0 rfl d_B_rewrite_48,
  qq_gf X 6 4 rfl (fun w h => List.mem_cons_of_mem _ (inE_B w h)) (by decide) (List.mem_cons_of_mem _ mw_197) d_B_rewrite_49,
  qq_cV X 4 rfl (c_R_used l) (fun hts => cwV 0 hts (evGV (mw_577) (mw_578) (mw_579) (mw_6) (mw_580)) rfl rfl rfl (by decide +kernel) ⟨Nat.le_of_ble_eq_true rfl, Nat.le_of_ble_eq_true rfl⟩) d_B_rewrite_52,
  qq_ri Z d_B_rewrite_55, trivial⟩
set_option maxHeartbeats 4000000 in
set_option maxRecDepth 100000 in
theorem c_B_rewrite (l : Launch) (hst : l.stackTraces = false) : ex_C ev_i l y_B_rewrite ws_B_rewrite rm_B_rewrite evLY evCl pre_B_rewrite post_B_rewrite px_B_rewrite := by
  refine ex_meth0 hst rfl (by decide) rfl ev_rop_i ?_ (by decide) I_B_rewrite (ok_B_rewrite l) 60 ?_
  · rintro _ σ τ ⟨n, rfl, hp⟩
    exact Nat.le_of_ble_eq_true rfl
  · rintro _ σ τ ⟨n, rfl, e10, n96, h3, hvb⟩
    refine ⟨rfl, ?_⟩
    rintro r σ τ ⟨rfl, rfl, rfl⟩
    by_cases h0 : (0 : Int32) < σ 8 10
    · refine br_nt (by rw [decide_eq_true h0]; decide) ?_
      refine ⟨⟨n, rfl, e10, n96, h3, hvb⟩, ?_⟩
      rintro r σ2 τ ⟨hr, hrv, hs, hf, rfl⟩
      by_cases h2 : σ2 18 2 ≤ 256
      · rw [decide_eq_true h2] at hr
        subst hr
        refine br_nt (by decide) ?_
        refine ⟨rfl, ?_⟩
        rintro r σ2 τ ⟨rfl, rfl, rfl⟩
        exact ⟨h0, rfl, h2, hrv, hs, hf, rfl⟩
      · rw [decide_eq_false h2] at hr
        subst hr
        refine br_nf rfl ?_
        exact ⟨Or.inr ⟨rfl, h0, h2, hrv, hs, hf⟩, rfl⟩
    · refine br_nf (by rw [decide_eq_false h0]; rfl) ?_
      exact ⟨Or.inl ⟨rfl, h0, rfl⟩, rfl⟩
