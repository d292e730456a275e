/-! the face's walks -/
def y_B_forgetFindings : MethodName := ⟨RX6, "forgetFindings", "()V"⟩
def ws_B_forgetFindings : List Cond := .code y_B_forgetFindings prog_1_method_16_code 1 none :: evW
theorem d_B_forgetFindings_0 : decode prog_1_method_16_code 0 = .ok (.aload_n 0, 1) := by decide +kernel
theorem d_B_forgetFindings_1 : decode prog_1_method_16_code 1 = .ok (.getfield 30, 3) := by decide +kernel
theorem d_B_forgetFindings_4 : decode prog_1_method_16_code 4 = .ok (.invokevirtual 186, 3) := by decide +kernel
theorem d_B_forgetFindings_7 : decode prog_1_method_16_code 7 = .ok (.aload_n 0, 1) := by decide +kernel
theorem d_B_forgetFindings_8 : decode prog_1_method_16_code 8 = .ok (.getfield 37, 3) := by decide +kernel
theorem d_B_forgetFindings_11 : decode prog_1_method_16_code 11 = .ok (.invokevirtual 85, 3) := by decide +kernel
theorem d_B_forgetFindings_14 : decode prog_1_method_16_code 14 = .ok (.return_, 1) := by decide +kernel
def I_B_forgetFindings (P : Unit → ev_M → ev_L → Prop) : List (Nat × ev_T) := [(0, tt_al 0 1),
  (1, tt_gf evLY 6 3 4),
  (4, tt_cV evLY 0 0 ev_n pre_A_forget post_A_forget 7),
  (7, tt_al 0 8),
  (8, tt_gf evLY 6 4 11),
  (11, tt_cV evLY 4 0 ev_n pre_R_forget post_R_forget 14),
  (14, tt_rv P)]
abbrev rm_B_forgetFindings : Room := { frames := 1, cells := 0, slots := 0, locals := 32 }
set_option maxRecDepth 20000 in
theorem ok_B_forgetFindings (l : Launch) (J : ev_K) (P : Unit → ev_M → ev_L → Prop) (X : ev_X l rm_B_forgetFindings evLY evCl ws_B_forgetFindings prog_1_method_16_code 1 y_B_forgetFindings.cls J) (Z : ev_Z J prog_1_method_16_code .return_ ev_n P) : ev_oks J (I_B_forgetFindings P) :=
  ⟨qq_aln X 0 rfl d_B_forgetFindings_0,
  qq_gf X 6 3 rfl (fun w h => List.mem_cons_of_mem _ (inE_B w h)) (by decide) (List.mem_cons_of_mem _ mw_196) d_B_forgetFindings_1,
  qq_cV X 0 rfl (c_A_forget l) (fun hts => cwV 0 hts (evGV (mw_317) (mw_318) (mw_319) (mw_4) (mw_320)) rfl rfl rfl (by decide +kernel) ⟨Nat.le_of_ble_eq_true rfl, Nat.le_of_ble_eq_true rfl⟩) d_B_forgetFindings_4,
  qq_aln X 0 rfl d_B_forgetFindings_7,
  qq_gf X 6 4 rfl (fun w h => List.mem_cons_of_mem _ (inE_B w h)) (by decide) (List.mem_cons_of_mem _ mw_197) d_B_forgetFindings_8,
  qq_cV X 4 rfl (c_R_forget l) (fun hts => cwV 0 hts (evGV (mw_321) (mw_322) (mw_323) (mw_6) (mw_324)) rfl rfl rfl (by decide +kernel) ⟨Nat.le_of_ble_eq_true rfl, Nat.le_of_ble_eq_true rfl⟩) d_B_forgetFindings_11,
  qq_rv Z d_B_forgetFindings_14, trivial⟩
set_option maxHeartbeats 4000000 in
set_option maxRecDepth 100000 in
theorem c_B_forgetFindings (l : Launch) : ev_C ev_n l y_B_forgetFindings ws_B_forgetFindings rm_B_forgetFindings evLY evCl pre_B_forgetFindings post_B_forgetFindings := by
  refine ev_meth0 (by decide) rfl ev_rop_v ?_ I_B_forgetFindings (ok_B_forgetFindings l) 30 ?_
  · rintro _ σ τ rfl
    exact Nat.le_of_ble_eq_true rfl
  · rintro _ σ τ rfl
    refine ⟨rfl, ?_⟩
    rintro _ σ τ ⟨rfl, rfl⟩
    refine ⟨rfl, ?_⟩
    rintro _ σ τ ⟨rfl, rfl⟩
    exact ⟨rfl, rfl⟩
def y_B_blockAt : MethodName := ⟨RX6, "blockAt", "(I)I"⟩
def ws_B_blockAt : List Cond := .code y_B_blockAt prog_1_method_7_code 2 (some .int) :: evW
theorem d_B_blockAt_0 : decode prog_1_method_7_code 0 = .ok (.aload_n 0, 1) := by decide +kernel
theorem d_B_blockAt_1 : decode prog_1_method_7_code 1 = .ok (.getfield 30, 3) := by decide +kernel
theorem d_B_blockAt_4 : decode prog_1_method_7_code 4 = .ok (.iload_n 1, 1) := by decide +kernel
theorem d_B_blockAt_5 : decode prog_1_method_7_code 5 = .ok (.invokevirtual 112, 3) := by decide +kernel
theorem d_B_blockAt_8 : decode prog_1_method_7_code 8 = .ok (.ireturn, 1) := by decide +kernel
def I_B_blockAt (P : Int32 → ev_M → ev_L → Prop) : List (Nat × ev_T) := [(0, tt_al 0 1),
  (1, tt_gf evLY 6 3 4),
  (4, tt_il 1 5),
  (5, tt_cV evLY 0 1 ev_i pre_A_numberAt post_A_numberAt 8),
  (8, tt_ri P)]
abbrev rm_B_blockAt : Room := { frames := 2, cells := 0, slots := 0, locals := 64 }
set_option maxRecDepth 20000 in
theorem ok_B_blockAt (l : Launch) (J : ev_K) (P : Int32 → ev_M → ev_L → Prop) (X : ev_X l rm_B_blockAt evLY evCl ws_B_blockAt prog_1_method_7_code 2 y_B_blockAt.cls J) (Z : ev_Z J prog_1_method_7_code .ireturn ev_i P) : ev_oks J (I_B_blockAt P) :=
  ⟨qq_aln X 0 rfl d_B_blockAt_0,
  qq_gf X 6 3 rfl (fun w h => List.mem_cons_of_mem _ (inE_B w h)) (by decide) (List.mem_cons_of_mem _ mw_196) d_B_blockAt_1,
  qq_iln X 1 rfl d_B_blockAt_4,
  qq_cV X 0 rfl (c_A_numberAt l) (fun hts => cwV 1 hts (evGV (mw_216) (mw_217) (mw_218) (mw_4) (mw_219)) rfl rfl rfl (by decide +kernel) ⟨Nat.le_of_ble_eq_true rfl, Nat.le_of_ble_eq_true rfl⟩) d_B_blockAt_5,
  qq_ri Z d_B_blockAt_8, trivial⟩
set_option maxHeartbeats 4000000 in
set_option maxRecDepth 100000 in
theorem c_B_blockAt (l : Launch) : ev_C ev_i l y_B_blockAt ws_B_blockAt rm_B_blockAt evLY evCl pre_B_blockAt post_B_blockAt := by
  refine ev_meth0 (by decide) rfl ev_rop_i ?_ I_B_blockAt (ok_B_blockAt l) 30 ?_
  · rintro _ σ τ ⟨a, rfl⟩
    exact Nat.le_of_ble_eq_true rfl
  · rintro _ σ τ ⟨a, rfl⟩
    refine ⟨⟨a, rfl⟩, ?_⟩
    rintro _ σ τ ⟨rfl, rfl, rfl⟩
    exact ⟨rfl, rfl, rfl⟩
def y_B_steps : MethodName := ⟨RX6, "steps", "()I"⟩
def ws_B_steps : List Cond := .code y_B_steps prog_1_method_11_code 1 (some .int) :: evW
theorem d_B_steps_0 : decode prog_1_method_11_code 0 = .ok (.aload_n 0, 1) := by decide +kernel
theorem d_B_steps_1 : decode prog_1_method_11_code 1 = .ok (.getfield 44, 3) := by decide +kernel
theorem d_B_steps_4 : decode prog_1_method_11_code 4 = .ok (.invokevirtual 155, 3) := by decide +kernel
theorem d_B_steps_7 : decode prog_1_method_11_code 7 = .ok (.ireturn, 1) := by decide +kernel
def I_B_steps (P : Int32 → ev_M → ev_L → Prop) : List (Nat × ev_T) := [(0, tt_al 0 1),
  (1, tt_gf evLY 6 5 4),
  (4, tt_cV evLY 2 0 ev_i pre_M_done post_M_done 7),
  (7, tt_ri P)]
abbrev rm_B_steps : Room := { frames := 1, cells := 0, slots := 0, locals := 32 }
set_option maxRecDepth 20000 in
theorem ok_B_steps (l : Launch) (J : ev_K) (P : Int32 → ev_M → ev_L → Prop) (X : ev_X l rm_B_steps evLY evCl ws_B_steps prog_1_method_11_code 1 y_B_steps.cls J) (Z : ev_Z J prog_1_method_11_code .ireturn ev_i P) : ev_oks J (I_B_steps P) :=
  ⟨qq_aln X 0 rfl d_B_steps_0,
  qq_gf X 6 5 rfl (fun w h => List.mem_cons_of_mem _ (inE_B w h)) (by decide) (List.mem_cons_of_mem _ mw_198) d_B_steps_1,
  qq_cV X 2 rfl (c_M_done l) (fun hts => cwV 0 hts (evGV (mw_228) (mw_229) (mw_230) (mw_7) (mw_231)) rfl rfl rfl (by decide +kernel) ⟨Nat.le_of_ble_eq_true rfl, Nat.le_of_ble_eq_true rfl⟩) d_B_steps_4,
  qq_ri Z d_B_steps_7, trivial⟩
set_option maxHeartbeats 4000000 in
set_option maxRecDepth 100000 in
theorem c_B_steps (l : Launch) : ev_C ev_i l y_B_steps ws_B_steps rm_B_steps evLY evCl pre_B_steps post_B_steps := by
  refine ev_meth0 (by decide) rfl ev_rop_i ?_ I_B_steps (ok_B_steps l) 30 ?_
  · rintro _ σ τ rfl
    exact Nat.le_of_ble_eq_true rfl
  · rintro _ σ τ rfl
    refine ⟨rfl, ?_⟩
    rintro _ σ τ ⟨rfl, rfl, rfl⟩
    exact ⟨rfl, rfl, rfl⟩
theorem i_ge0 {a : Int32} (h : ¬ a < 0) : 0 ≤ a := Int32.not_lt.mp h
def y_B_poke : MethodName := ⟨RX6, "poke", "(II)V"⟩
def ws_B_poke : List Cond := .code y_B_poke prog_1_method_2_code 3 none :: evW
theorem d_B_poke_0 : decode prog_1_method_2_code 0 = .ok (.iload_n 1, 1) := by decide +kernel
theorem d_B_poke_1 : decode prog_1_method_2_code 1 = .ok (.ifCond .lt 9, 3) := by decide +kernel
theorem d_B_poke_4 : decode prog_1_method_2_code 4 = .ok (.iload_n 1, 1) := by decide +kernel
theorem d_B_poke_5 : decode prog_1_method_2_code 5 = .ok (.bipush 96, 2) := by decide +kernel
theorem d_B_poke_7 : decode prog_1_method_2_code 7 = .ok (.if_icmp .lt 13, 3) := by decide +kernel
theorem d_B_poke_10 : decode prog_1_method_2_code 10 = .ok (.new 48, 3) := by decide +kernel
theorem d_B_poke_13 : decode prog_1_method_2_code 13 = .ok (.dup, 1) := by decide +kernel
theorem d_B_poke_14 : decode prog_1_method_2_code 14 = .ok (.ldc 50, 2) := by decide +kernel
theorem d_B_poke_16 : decode prog_1_method_2_code 16 = .ok (.invokespecial 52, 3) := by decide +kernel
theorem d_B_poke_19 : decode prog_1_method_2_code 19 = .ok (.athrow, 1) := by decide +kernel
theorem d_B_poke_20 : decode prog_1_method_2_code 20 = .ok (.aload_n 0, 1) := by decide +kernel
theorem d_B_poke_21 : decode prog_1_method_2_code 21 = .ok (.getfield 10, 3) := by decide +kernel
theorem d_B_poke_24 : decode prog_1_method_2_code 24 = .ok (.iload_n 1, 1) := by decide +kernel
theorem d_B_poke_25 : decode prog_1_method_2_code 25 = .ok (.iload_n 2, 1) := by decide +kernel
theorem d_B_poke_26 : decode prog_1_method_2_code 26 = .ok (.invokevirtual 55, 3) := by decide +kernel
theorem d_B_poke_29 : decode prog_1_method_2_code 29 = .ok (.aload_n 0, 1) := by decide +kernel
theorem d_B_poke_30 : decode prog_1_method_2_code 30 = .ok (.invokevirtual 59, 3) := by decide +kernel
theorem d_B_poke_33 : decode prog_1_method_2_code 33 = .ok (.return_, 1) := by decide +kernel
def I_B_poke (P : Unit → ev_M → ev_L → Prop) (PX : Nat → ev_M → ev_L → Prop) : List (Nat × ev_T) := [(0, tt_il 1 1),
  (1, tt_iflt 10 4),
  (4, tt_il 1 5),
  (5, tt_k 96 7),
  (7, tt_iclt 20 10),
  (10, tt_th 0 PX),
  (20, tt_al 0 21),
  (21, tt_gf evLY 6 0 24),
  (24, tt_il 1 25),
  (25, tt_il 2 26),
  (26, tt_cV evLY 3 2 ev_n pre_P_put post_P_put 29),
  (29, tt_al 0 30),
  (30, tt_cV evLY 6 0 ev_n pre_B_forgetFindings post_B_forgetFindings 33),
  (33, tt_rv P)]
abbrev rm_B_poke : Room := { frames := 6, cells := 1, slots := 6, locals := 192 }
set_option maxRecDepth 20000 in
theorem ok_B_poke (l : Launch) (J : ev_K) (P : Unit → ev_M → ev_L → Prop) (PX : Nat → ev_M → ev_L → Prop) (X : ev_X l rm_B_poke evLY evCl ws_B_poke prog_1_method_2_code 3 y_B_poke.cls J) (Z : ev_Z J prog_1_method_2_code .return_ ev_n P) (T : ex_Z J prog_1_method_2_code PX) : ev_oks J (I_B_poke P PX) :=
  ⟨qq_iln X 1 rfl d_B_poke_0,
  qq_iflt X 10 (by decide) d_B_poke_1,
  qq_iln X 1 rfl d_B_poke_4,
  qq_bp X 96 (by decide) d_B_poke_5,
  qq_iclt X 20 (by decide) d_B_poke_7,
  qq_th T 0 (by decide) (List.mem_of_getElem? (i := 0) rfl) d_B_poke_10 d_B_poke_13 d_B_poke_14 d_B_poke_16 d_B_poke_19,
  qq_aln X 0 rfl d_B_poke_20,
  qq_gf X 6 0 rfl (fun w h => List.mem_cons_of_mem _ (inE_B w h)) (by decide) (List.mem_cons_of_mem _ mw_193) d_B_poke_21,
  qq_iln X 1 rfl d_B_poke_24,
  qq_iln X 2 rfl d_B_poke_25,
  qq_cV X 3 rfl (c_P_put l) (fun hts => cwV 2 hts (evGV (mw_309) (mw_310) (mw_311) (mw_2) (mw_312)) rfl rfl rfl (by decide +kernel) ⟨Nat.le_of_ble_eq_true rfl, Nat.le_of_ble_eq_true rfl⟩) d_B_poke_26,
  qq_aln X 0 rfl d_B_poke_29,
  qq_cV X 6 rfl (c_B_forgetFindings l) (fun hts => cwV 0 hts (evGV (mw_313) (mw_315) (mp_1) (mw_1) (mw_316)) rfl rfl rfl (by decide +kernel) ⟨Nat.le_of_ble_eq_true rfl, Nat.le_of_ble_eq_true rfl⟩) d_B_poke_30,
  qq_rv Z d_B_poke_33, trivial⟩
set_option maxHeartbeats 4000000 in
set_option maxRecDepth 100000 in
theorem c_B_poke (l : Launch) (hst : l.stackTraces = false) : ex_C ev_n l y_B_poke ws_B_poke rm_B_poke evLY evCl pre_B_poke post_B_poke px_B_poke := by
  refine ex_meth0 hst rfl (by decide) rfl ev_rop_v ?_ (by decide) I_B_poke (ok_B_poke l) 40 ?_
  · rintro _ σ τ ⟨a, v, rfl⟩
    exact Nat.le_of_ble_eq_true rfl
  · rintro _ σ τ ⟨a, v, rfl⟩
    have no : (¬ (0 ≤ a ∧ a < 96)) → px_B_poke [.ref 0, .int a, .int v] σ τ 0 σ τ := fun h => ⟨rfl, h, rfl, rfl⟩
    refine br_c (fun h => ?_) (fun h => ?_)
    · exact no (fun q => absurd q.1 (Int32.not_le.mpr h))
    · refine br_c (fun h2 => ?_) (fun h2 => ?_)
      · refine ⟨⟨1, a, v, rfl, Or.inl rfl⟩, ?_⟩
        rintro _ σ1 τ ⟨rfl, rfl⟩
        refine ⟨rfl, ?_⟩
        rintro _ σ1 τ ⟨rfl, rfl⟩
        exact ⟨⟨i_ge0 h, h2⟩, rfl, rfl⟩
      · exact no (fun q => h2 q.2)
def y_B_data : MethodName := ⟨RX6, "data", "(II)V"⟩
def ws_B_data : List Cond := .code y_B_data prog_1_method_4_code 3 none :: evW
theorem d_B_data_0 : decode prog_1_method_4_code 0 = .ok (.iload_n 1, 1) := by decide +kernel
theorem d_B_data_1 : decode prog_1_method_4_code 1 = .ok (.ifCond .lt 9, 3) := by decide +kernel
theorem d_B_data_4 : decode prog_1_method_4_code 4 = .ok (.iload_n 1, 1) := by decide +kernel
theorem d_B_data_5 : decode prog_1_method_4_code 5 = .ok (.bipush 16, 2) := by decide +kernel
theorem d_B_data_7 : decode prog_1_method_4_code 7 = .ok (.if_icmp .lt 13, 3) := by decide +kernel
theorem d_B_data_10 : decode prog_1_method_4_code 10 = .ok (.new 48, 3) := by decide +kernel
theorem d_B_data_13 : decode prog_1_method_4_code 13 = .ok (.dup, 1) := by decide +kernel
theorem d_B_data_14 : decode prog_1_method_4_code 14 = .ok (.ldc 83, 2) := by decide +kernel
theorem d_B_data_16 : decode prog_1_method_4_code 16 = .ok (.invokespecial 52, 3) := by decide +kernel
theorem d_B_data_19 : decode prog_1_method_4_code 19 = .ok (.athrow, 1) := by decide +kernel
theorem d_B_data_20 : decode prog_1_method_4_code 20 = .ok (.aload_n 0, 1) := by decide +kernel
theorem d_B_data_21 : decode prog_1_method_4_code 21 = .ok (.getfield 23, 3) := by decide +kernel
theorem d_B_data_24 : decode prog_1_method_4_code 24 = .ok (.iload_n 1, 1) := by decide +kernel
theorem d_B_data_25 : decode prog_1_method_4_code 25 = .ok (.iload_n 2, 1) := by decide +kernel
theorem d_B_data_26 : decode prog_1_method_4_code 26 = .ok (.iastore, 1) := by decide +kernel
theorem d_B_data_27 : decode prog_1_method_4_code 27 = .ok (.return_, 1) := by decide +kernel
def I_B_data (P : Unit → ev_M → ev_L → Prop) (PX : Nat → ev_M → ev_L → Prop) : List (Nat × ev_T) := [(0, tt_il 1 1),
  (1, tt_iflt 10 4),
  (4, tt_il 1 5),
  (5, tt_k 16 7),
  (7, tt_iclt 20 10),
  (10, tt_th 0 PX),
  (20, tt_al 0 21),
  (21, tt_gf evLY 6 2 24),
  (24, tt_il 1 25),
  (25, tt_il 2 26),
  (26, tt_ias evLY 27),
  (27, tt_rv P)]
abbrev rm_B_data : Room := { frames := 6, cells := 1, slots := 6, locals := 192 }
set_option maxRecDepth 20000 in
theorem ok_B_data (l : Launch) (J : ev_K) (P : Unit → ev_M → ev_L → Prop) (PX : Nat → ev_M → ev_L → Prop) (X : ev_X l rm_B_data evLY evCl ws_B_data prog_1_method_4_code 3 y_B_data.cls J) (Z : ev_Z J prog_1_method_4_code .return_ ev_n P) (T : ex_Z J prog_1_method_4_code PX) : ev_oks J (I_B_data P PX) :=
  ⟨qq_iln X 1 rfl d_B_data_0,
  qq_iflt X 10 (by decide) d_B_data_1,
  qq_iln X 1 rfl d_B_data_4,
  qq_bp X 16 (by decide) d_B_data_5,
  qq_iclt X 20 (by decide) d_B_data_7,
  qq_th T 0 (by decide) (List.mem_of_getElem? (i := 3) rfl) d_B_data_10 d_B_data_13 d_B_data_14 d_B_data_16 d_B_data_19,
  qq_aln X 0 rfl d_B_data_20,
  qq_gf X 6 2 rfl (fun w h => List.mem_cons_of_mem _ (inE_B w h)) (by decide) (List.mem_cons_of_mem _ mw_195) d_B_data_21,
  qq_iln X 1 rfl d_B_data_24,
  qq_iln X 2 rfl d_B_data_25,
  qq_ias X d_B_data_26,
  qq_rv Z d_B_data_27, trivial⟩
set_option maxHeartbeats 4000000 in
set_option maxRecDepth 100000 in
theorem c_B_data (l : Launch) (hst : l.stackTraces = false) : ex_C ev_n l y_B_data ws_B_data rm_B_data evLY evCl pre_B_data post_B_data px_B_data := by
  refine ex_meth0 hst rfl (by decide) rfl ev_rop_v ?_ (by decide) I_B_data (ok_B_data l) 40 ?_
  · rintro _ σ τ ⟨a, v, rfl⟩
    exact Nat.le_of_ble_eq_true rfl
  · rintro _ σ τ ⟨a, v, rfl⟩
    have no : (¬ (0 ≤ a ∧ a < 16)) → px_B_data [.ref 0, .int a, .int v] σ τ 0 σ τ := fun h => ⟨rfl, h, rfl, rfl⟩
    refine br_c (fun h => ?_) (fun h => ?_)
    · exact no (fun q => absurd q.1 (Int32.not_le.mpr h))
    · refine br_c (fun h2 => ?_) (fun h2 => ?_)
      · refine ⟨vp_in_lt (z := 16) h h2 rfl, ?_⟩
        exact ⟨⟨i_ge0 h, h2⟩, rfl, rfl⟩
      · exact no (fun q => h2 q.2)
def y_B_cell : MethodName := ⟨RX6, "cell", "(I)I"⟩
def ws_B_cell : List Cond := .code y_B_cell prog_1_method_13_code 2 (some .int) :: evW
theorem d_B_cell_0 : decode prog_1_method_13_code 0 = .ok (.iload_n 1, 1) := by decide +kernel
theorem d_B_cell_1 : decode prog_1_method_13_code 1 = .ok (.ifCond .lt 9, 3) := by decide +kernel
theorem d_B_cell_4 : decode prog_1_method_13_code 4 = .ok (.iload_n 1, 1) := by decide +kernel
theorem d_B_cell_5 : decode prog_1_method_13_code 5 = .ok (.bipush 16, 2) := by decide +kernel
theorem d_B_cell_7 : decode prog_1_method_13_code 7 = .ok (.if_icmp .lt 13, 3) := by decide +kernel
theorem d_B_cell_10 : decode prog_1_method_13_code 10 = .ok (.new 48, 3) := by decide +kernel
theorem d_B_cell_13 : decode prog_1_method_13_code 13 = .ok (.dup, 1) := by decide +kernel
theorem d_B_cell_14 : decode prog_1_method_13_code 14 = .ok (.ldc 83, 2) := by decide +kernel
theorem d_B_cell_16 : decode prog_1_method_13_code 16 = .ok (.invokespecial 52, 3) := by decide +kernel
theorem d_B_cell_19 : decode prog_1_method_13_code 19 = .ok (.athrow, 1) := by decide +kernel
theorem d_B_cell_20 : decode prog_1_method_13_code 20 = .ok (.aload_n 0, 1) := by decide +kernel
theorem d_B_cell_21 : decode prog_1_method_13_code 21 = .ok (.getfield 44, 3) := by decide +kernel
theorem d_B_cell_24 : decode prog_1_method_13_code 24 = .ok (.iload_n 1, 1) := by decide +kernel
theorem d_B_cell_25 : decode prog_1_method_13_code 25 = .ok (.invokevirtual 172, 3) := by decide +kernel
theorem d_B_cell_28 : decode prog_1_method_13_code 28 = .ok (.ireturn, 1) := by decide +kernel
def I_B_cell (P : Int32 → ev_M → ev_L → Prop) (PX : Nat → ev_M → ev_L → Prop) : List (Nat × ev_T) := [(0, tt_il 1 1),
  (1, tt_iflt 10 4),
  (4, tt_il 1 5),
  (5, tt_k 16 7),
  (7, tt_iclt 20 10),
  (10, tt_th 0 PX),
  (20, tt_al 0 21),
  (21, tt_gf evLY 6 5 24),
  (24, tt_il 1 25),
  (25, tt_cV evLY 2 1 ev_i pre_M_cellValue post_M_cellValue 28),
  (28, tt_ri P)]
abbrev rm_B_cell : Room := { frames := 6, cells := 1, slots := 6, locals := 192 }
set_option maxRecDepth 20000 in
theorem ok_B_cell (l : Launch) (J : ev_K) (P : Int32 → ev_M → ev_L → Prop) (PX : Nat → ev_M → ev_L → Prop) (X : ev_X l rm_B_cell evLY evCl ws_B_cell prog_1_method_13_code 2 y_B_cell.cls J) (Z : ev_Z J prog_1_method_13_code .ireturn ev_i P) (T : ex_Z J prog_1_method_13_code PX) : ev_oks J (I_B_cell P PX) :=
  ⟨qq_iln X 1 rfl d_B_cell_0,
  qq_iflt X 10 (by decide) d_B_cell_1,
  qq_iln X 1 rfl d_B_cell_4,
  qq_bp X 16 (by decide) d_B_cell_5,
  qq_iclt X 20 (by decide) d_B_cell_7,
  qq_th T 0 (by decide) (List.mem_of_getElem? (i := 3) rfl) d_B_cell_10 d_B_cell_13 d_B_cell_14 d_B_cell_16 d_B_cell_19,
  qq_aln X 0 rfl d_B_cell_20,
  qq_gf X 6 5 rfl (fun w h => List.mem_cons_of_mem _ (inE_B w h)) (by decide) (List.mem_cons_of_mem _ mw_198) d_B_cell_21,
  qq_iln X 1 rfl d_B_cell_24,
  qq_cV X 2 rfl (c_M_cellValue l) (fun hts => cwV 1 hts (evGV (mw_720) (mw_721) (mw_722) (mw_7) (mw_723)) rfl rfl rfl (by decide +kernel) ⟨Nat.le_of_ble_eq_true rfl, Nat.le_of_ble_eq_true rfl⟩) d_B_cell_25,
  qq_ri Z d_B_cell_28, trivial⟩
set_option maxHeartbeats 4000000 in
set_option maxRecDepth 100000 in
theorem c_B_cell (l : Launch) (hst : l.stackTraces = false) : ex_C ev_i l y_B_cell ws_B_cell rm_B_cell evLY evCl pre_B_cell post_B_cell px_B_cell := by
  refine ex_meth0 hst rfl (by decide) rfl ev_rop_i ?_ (by decide) I_B_cell (ok_B_cell l) 40 ?_
  · rintro _ σ τ ⟨a, rfl⟩
    exact Nat.le_of_ble_eq_true rfl
  · rintro _ σ τ ⟨a, rfl⟩
    have no : (¬ (0 ≤ a ∧ a < 16)) → px_B_cell [.ref 0, .int a] σ τ 0 σ τ := fun h => ⟨rfl, h, rfl, rfl⟩
    refine br_c (fun h => ?_) (fun h => ?_)
    · exact no (fun q => absurd q.1 (Int32.not_le.mpr h))
    · refine br_c (fun h2 => ?_) (fun h2 => ?_)
      · refine ⟨⟨a, rfl⟩, ?_⟩
        rintro _ σ1 τ ⟨rfl, rfl, rfl⟩
        exact ⟨⟨i_ge0 h, h2⟩, by rw [and15 h h2], rfl, rfl⟩
      · exact no (fun q => h2 q.2)
def y_B_counter : MethodName := ⟨RX6, "counter", "(I)J"⟩
def ws_B_counter : List Cond := .code y_B_counter prog_1_method_15_code 2 (some .long) :: evW
theorem d_B_counter_0 : decode prog_1_method_15_code 0 = .ok (.iload_n 1, 1) := by decide +kernel
theorem d_B_counter_1 : decode prog_1_method_15_code 1 = .ok (.ifCond .lt 9, 3) := by decide +kernel
theorem d_B_counter_4 : decode prog_1_method_15_code 4 = .ok (.iload_n 1, 1) := by decide +kernel
theorem d_B_counter_5 : decode prog_1_method_15_code 5 = .ok (.bipush 64, 2) := by decide +kernel
theorem d_B_counter_7 : decode prog_1_method_15_code 7 = .ok (.if_icmp .lt 13, 3) := by decide +kernel
theorem d_B_counter_10 : decode prog_1_method_15_code 10 = .ok (.new 48, 3) := by decide +kernel
theorem d_B_counter_13 : decode prog_1_method_15_code 13 = .ok (.dup, 1) := by decide +kernel
theorem d_B_counter_14 : decode prog_1_method_15_code 14 = .ok (.ldc 180, 2) := by decide +kernel
theorem d_B_counter_16 : decode prog_1_method_15_code 16 = .ok (.invokespecial 52, 3) := by decide +kernel
theorem d_B_counter_19 : decode prog_1_method_15_code 19 = .ok (.athrow, 1) := by decide +kernel
theorem d_B_counter_20 : decode prog_1_method_15_code 20 = .ok (.aload_n 0, 1) := by decide +kernel
theorem d_B_counter_21 : decode prog_1_method_15_code 21 = .ok (.getfield 44, 3) := by decide +kernel
theorem d_B_counter_24 : decode prog_1_method_15_code 24 = .ok (.iload_n 1, 1) := by decide +kernel
theorem d_B_counter_25 : decode prog_1_method_15_code 25 = .ok (.invokevirtual 182, 3) := by decide +kernel
theorem d_B_counter_28 : decode prog_1_method_15_code 28 = .ok (.lreturn, 1) := by decide +kernel
def I_B_counter (P : Int64 → ev_M → ev_L → Prop) (PX : Nat → ev_M → ev_L → Prop) : List (Nat × ev_T) := [(0, tt_il 1 1),
  (1, tt_iflt 10 4),
  (4, tt_il 1 5),
  (5, tt_k 64 7),
  (7, tt_iclt 20 10),
  (10, tt_th 0 PX),
  (20, tt_al 0 21),
  (21, tt_gf evLY 6 5 24),
  (24, tt_il 1 25),
  (25, tt_cV evLY 2 1 ev_l pre_M_count post_M_count 28),
  (28, tt_rl P)]
abbrev rm_B_counter : Room := { frames := 6, cells := 1, slots := 6, locals := 192 }
set_option maxRecDepth 20000 in
theorem ok_B_counter (l : Launch) (J : ev_K) (P : Int64 → ev_M → ev_L → Prop) (PX : Nat → ev_M → ev_L → Prop) (X : ev_X l rm_B_counter evLY evCl ws_B_counter prog_1_method_15_code 2 y_B_counter.cls J) (Z : ev_Z J prog_1_method_15_code .lreturn ev_l P) (T : ex_Z J prog_1_method_15_code PX) : ev_oks J (I_B_counter P PX) :=
  ⟨qq_iln X 1 rfl d_B_counter_0,
  qq_iflt X 10 (by decide) d_B_counter_1,
  qq_iln X 1 rfl d_B_counter_4,
  qq_bp X 64 (by decide) d_B_counter_5,
  qq_iclt X 20 (by decide) d_B_counter_7,
  qq_th T 0 (by decide) (List.mem_of_getElem? (i := 14) rfl) d_B_counter_10 d_B_counter_13 d_B_counter_14 d_B_counter_16 d_B_counter_19,
  qq_aln X 0 rfl d_B_counter_20,
  qq_gf X 6 5 rfl (fun w h => List.mem_cons_of_mem _ (inE_B w h)) (by decide) (List.mem_cons_of_mem _ mw_198) d_B_counter_21,
  qq_iln X 1 rfl d_B_counter_24,
  qq_cV X 2 rfl (c_M_count l) (fun hts => cwV 1 hts (evGV (mw_744) (mw_745) (mw_746) (mw_7) (mw_747)) rfl rfl rfl (by decide +kernel) ⟨Nat.le_of_ble_eq_true rfl, Nat.le_of_ble_eq_true rfl⟩) d_B_counter_25,
  qq_rl Z d_B_counter_28, trivial⟩
set_option maxHeartbeats 4000000 in
set_option maxRecDepth 100000 in
theorem c_B_counter (l : Launch) (hst : l.stackTraces = false) : ex_C ev_l l y_B_counter ws_B_counter rm_B_counter evLY evCl pre_B_counter post_B_counter px_B_counter := by
  refine ex_meth0 hst rfl (by decide) rfl ev_rop_l ?_ (by decide) I_B_counter (ok_B_counter l) 40 ?_
  · rintro _ σ τ ⟨a, rfl⟩
    exact Nat.le_of_ble_eq_true rfl
  · rintro _ σ τ ⟨a, rfl⟩
    have no : (¬ (0 ≤ a ∧ a < 64)) → px_B_counter [.ref 0, .int a] σ τ 0 σ τ := fun h => ⟨rfl, h, rfl, rfl⟩
    refine br_c (fun h => ?_) (fun h => ?_)
    · exact no (fun q => absurd q.1 (Int32.not_le.mpr h))
    · refine br_c (fun h2 => ?_) (fun h2 => ?_)
      · refine ⟨⟨a, rfl⟩, ?_⟩
        rintro _ σ1 τ ⟨rfl, rfl, rfl⟩
        exact ⟨⟨i_ge0 h, h2⟩, by rw [and63 h h2], rfl, rfl⟩
      · exact no (fun q => h2 q.2)
def y_B_output : MethodName := ⟨RX6, "output", "(I)I"⟩
def ws_B_output : List Cond := .code y_B_output prog_1_method_14_code 2 (some .int) :: evW
theorem d_B_output_0 : decode prog_1_method_14_code 0 = .ok (.iload_n 1, 1) := by decide +kernel
theorem d_B_output_1 : decode prog_1_method_14_code 1 = .ok (.ifCond .lt 14, 3) := by decide +kernel
theorem d_B_output_4 : decode prog_1_method_14_code 4 = .ok (.iload_n 1, 1) := by decide +kernel
theorem d_B_output_5 : decode prog_1_method_14_code 5 = .ok (.aload_n 0, 1) := by decide +kernel
theorem d_B_output_6 : decode prog_1_method_14_code 6 = .ok (.getfield 44, 3) := by decide +kernel
theorem d_B_output_9 : decode prog_1_method_14_code 9 = .ok (.invokevirtual 167, 3) := by decide +kernel
theorem d_B_output_12 : decode prog_1_method_14_code 12 = .ok (.if_icmp .lt 13, 3) := by decide +kernel
theorem d_B_output_15 : decode prog_1_method_14_code 15 = .ok (.new 48, 3) := by decide +kernel
theorem d_B_output_18 : decode prog_1_method_14_code 18 = .ok (.dup, 1) := by decide +kernel
theorem d_B_output_19 : decode prog_1_method_14_code 19 = .ok (.ldc 175, 2) := by decide +kernel
theorem d_B_output_21 : decode prog_1_method_14_code 21 = .ok (.invokespecial 52, 3) := by decide +kernel
theorem d_B_output_24 : decode prog_1_method_14_code 24 = .ok (.athrow, 1) := by decide +kernel
theorem d_B_output_25 : decode prog_1_method_14_code 25 = .ok (.aload_n 0, 1) := by decide +kernel
theorem d_B_output_26 : decode prog_1_method_14_code 26 = .ok (.getfield 44, 3) := by decide +kernel
theorem d_B_output_29 : decode prog_1_method_14_code 29 = .ok (.iload_n 1, 1) := by decide +kernel
theorem d_B_output_30 : decode prog_1_method_14_code 30 = .ok (.invokevirtual 177, 3) := by decide +kernel
theorem d_B_output_33 : decode prog_1_method_14_code 33 = .ok (.ireturn, 1) := by decide +kernel
def I_B_output (P : Int32 → ev_M → ev_L → Prop) (PX : Nat → ev_M → ev_L → Prop) : List (Nat × ev_T) := [(0, tt_il 1 1),
  (1, tt_iflt 15 4),
  (4, tt_il 1 5),
  (5, tt_al 0 6),
  (6, tt_gf evLY 6 5 9),
  (9, tt_cV evLY 2 0 ev_i pre_M_printed post_M_printed 12),
  (12, tt_iclt 25 15),
  (15, tt_th 0 PX),
  (25, tt_al 0 26),
  (26, tt_gf evLY 6 5 29),
  (29, tt_il 1 30),
  (30, tt_cV evLY 2 1 ev_i pre_M_printedValue post_M_printedValue 33),
  (33, tt_ri P)]
abbrev rm_B_output : Room := { frames := 6, cells := 1, slots := 6, locals := 192 }
set_option maxRecDepth 20000 in
theorem ok_B_output (l : Launch) (J : ev_K) (P : Int32 → ev_M → ev_L → Prop) (PX : Nat → ev_M → ev_L → Prop) (X : ev_X l rm_B_output evLY evCl ws_B_output prog_1_method_14_code 2 y_B_output.cls J) (Z : ev_Z J prog_1_method_14_code .ireturn ev_i P) (T : ex_Z J prog_1_method_14_code PX) : ev_oks J (I_B_output P PX) :=
  ⟨qq_iln X 1 rfl d_B_output_0,
  qq_iflt X 15 (by decide) d_B_output_1,
  qq_iln X 1 rfl d_B_output_4,
  qq_aln X 0 rfl d_B_output_5,
  qq_gf X 6 5 rfl (fun w h => List.mem_cons_of_mem _ (inE_B w h)) (by decide) (List.mem_cons_of_mem _ mw_198) d_B_output_6,
  qq_cV X 2 rfl (c_M_printed l) (fun hts => cwV 0 hts (evGV (mw_708) (mw_709) (mw_710) (mw_7) (mw_711)) rfl rfl rfl (by decide +kernel) ⟨Nat.le_of_ble_eq_true rfl, Nat.le_of_ble_eq_true rfl⟩) d_B_output_9,
  qq_iclt X 25 (by decide) d_B_output_12,
  qq_th T 0 (by decide) (List.mem_of_getElem? (i := 13) rfl) d_B_output_15 d_B_output_18 d_B_output_19 d_B_output_21 d_B_output_24,
  qq_aln X 0 rfl d_B_output_25,
  qq_gf X 6 5 rfl (fun w h => List.mem_cons_of_mem _ (inE_B w h)) (by decide) (List.mem_cons_of_mem _ mw_198) d_B_output_26,
  qq_iln X 1 rfl d_B_output_29,
  qq_cV X 2 rfl (c_M_printedValue l) (fun hts => cwV 1 hts (evGV (mw_732) (mw_733) (mw_734) (mw_7) (mw_735)) rfl rfl rfl (by decide +kernel) ⟨Nat.le_of_ble_eq_true rfl, Nat.le_of_ble_eq_true rfl⟩) d_B_output_30,
  qq_ri Z d_B_output_33, trivial⟩
set_option maxHeartbeats 4000000 in
set_option maxRecDepth 100000 in
theorem c_B_output (l : Launch) (hst : l.stackTraces = false) : ex_C ev_i l y_B_output ws_B_output rm_B_output evLY evCl pre_B_output post_B_output px_B_output := by
  refine ex_meth0 hst rfl (by decide) rfl ev_rop_i ?_ (by decide) I_B_output (ok_B_output l) 40 ?_
  · rintro _ σ τ ⟨a, rfl, hp⟩
    exact Nat.le_of_ble_eq_true rfl
  · rintro _ σ τ ⟨a, rfl, hp⟩
    have no : (¬ (0 ≤ a ∧ a < σ 23 8)) → px_B_output [.ref 0, .int a] σ τ 0 σ τ := fun h => ⟨rfl, h, rfl, rfl⟩
    refine br_c (fun h => ?_) (fun h => ?_)
    · exact no (fun q => absurd q.1 (Int32.not_le.mpr h))
    · refine ⟨rfl, ?_⟩
      rintro _ σ1 τ ⟨rfl, rfl, rfl⟩
      refine br_c (fun h2 => ?_) (fun h2 => ?_)
      · refine ⟨⟨a, rfl, hp⟩, ?_⟩
        rintro _ σ1 τ ⟨rfl, rfl, rfl⟩
        exact ⟨⟨i_ge0 h, h2⟩, if_pos ⟨i_ge0 h, h2⟩, rfl, rfl⟩
      · exact no (fun q => h2 q.2)
def y_B_block : MethodName := ⟨RX6, "block", "(II)I"⟩
def ws_B_block : List Cond := .code y_B_block prog_1_method_6_code 3 (some .int) :: evW
theorem d_B_block_0 : decode prog_1_method_6_code 0 = .ok (.iload_n 1, 1) := by decide +kernel
theorem d_B_block_1 : decode prog_1_method_6_code 1 = .ok (.ifCond .lt 14, 3) := by decide +kernel
theorem d_B_block_4 : decode prog_1_method_6_code 4 = .ok (.iload_n 1, 1) := by decide +kernel
theorem d_B_block_5 : decode prog_1_method_6_code 5 = .ok (.aload_n 0, 1) := by decide +kernel
theorem d_B_block_6 : decode prog_1_method_6_code 6 = .ok (.getfield 30, 3) := by decide +kernel
theorem d_B_block_9 : decode prog_1_method_6_code 9 = .ok (.invokevirtual 97, 3) := by decide +kernel
theorem d_B_block_12 : decode prog_1_method_6_code 12 = .ok (.if_icmp .lt 13, 3) := by decide +kernel
theorem d_B_block_15 : decode prog_1_method_6_code 15 = .ok (.new 48, 3) := by decide +kernel
theorem d_B_block_18 : decode prog_1_method_6_code 18 = .ok (.dup, 1) := by decide +kernel
theorem d_B_block_19 : decode prog_1_method_6_code 19 = .ok (.ldc 98, 2) := by decide +kernel
theorem d_B_block_21 : decode prog_1_method_6_code 21 = .ok (.invokespecial 52, 3) := by decide +kernel
theorem d_B_block_24 : decode prog_1_method_6_code 24 = .ok (.athrow, 1) := by decide +kernel
theorem d_B_block_25 : decode prog_1_method_6_code 25 = .ok (.iload_n 2, 1) := by decide +kernel
theorem d_B_block_26 : decode prog_1_method_6_code 26 = .ok (.tableswitch 53 0 2 #[26, 35, 44], 26) := by decide +kernel
theorem d_B_block_52 : decode prog_1_method_6_code 52 = .ok (.aload_n 0, 1) := by decide +kernel
theorem d_B_block_53 : decode prog_1_method_6_code 53 = .ok (.getfield 30, 3) := by decide +kernel
theorem d_B_block_56 : decode prog_1_method_6_code 56 = .ok (.iload_n 1, 1) := by decide +kernel
theorem d_B_block_57 : decode prog_1_method_6_code 57 = .ok (.invokevirtual 100, 3) := by decide +kernel
theorem d_B_block_60 : decode prog_1_method_6_code 60 = .ok (.ireturn, 1) := by decide +kernel
theorem d_B_block_61 : decode prog_1_method_6_code 61 = .ok (.aload_n 0, 1) := by decide +kernel
theorem d_B_block_62 : decode prog_1_method_6_code 62 = .ok (.getfield 30, 3) := by decide +kernel
theorem d_B_block_65 : decode prog_1_method_6_code 65 = .ok (.iload_n 1, 1) := by decide +kernel
theorem d_B_block_66 : decode prog_1_method_6_code 66 = .ok (.invokevirtual 104, 3) := by decide +kernel
theorem d_B_block_69 : decode prog_1_method_6_code 69 = .ok (.ireturn, 1) := by decide +kernel
theorem d_B_block_70 : decode prog_1_method_6_code 70 = .ok (.aload_n 0, 1) := by decide +kernel
theorem d_B_block_71 : decode prog_1_method_6_code 71 = .ok (.getfield 30, 3) := by decide +kernel
theorem d_B_block_74 : decode prog_1_method_6_code 74 = .ok (.iload_n 1, 1) := by decide +kernel
theorem d_B_block_75 : decode prog_1_method_6_code 75 = .ok (.invokevirtual 107, 3) := by decide +kernel
theorem d_B_block_78 : decode prog_1_method_6_code 78 = .ok (.ireturn, 1) := by decide +kernel
theorem d_B_block_79 : decode prog_1_method_6_code 79 = .ok (.new 62, 3) := by decide +kernel
theorem d_B_block_82 : decode prog_1_method_6_code 82 = .ok (.dup, 1) := by decide +kernel
theorem d_B_block_83 : decode prog_1_method_6_code 83 = .ok (.ldc 110, 2) := by decide +kernel
theorem d_B_block_85 : decode prog_1_method_6_code 85 = .ok (.invokespecial 66, 3) := by decide +kernel
theorem d_B_block_88 : decode prog_1_method_6_code 88 = .ok (.athrow, 1) := by decide +kernel
def I_B_block (P : Int32 → ev_M → ev_L → Prop) (PX : Nat → ev_M → ev_L → Prop) : List (Nat × ev_T) := [(0, tt_il 1 1),
  (1, tt_iflt 15 4),
  (4, tt_il 1 5),
  (5, tt_al 0 6),
  (6, tt_gf evLY 6 3 9),
  (9, tt_cV evLY 0 0 ev_i pre_A_size post_A_size 12),
  (12, tt_iclt 25 15),
  (15, tt_th 0 PX),
  (25, tt_il 2 26),
  (26, tt_sw [(0, 52), (1, 61), (2, 70)] 79),
  (52, tt_al 0 53),
  (53, tt_gf evLY 6 3 56),
  (56, tt_il 1 57),
  (57, tt_cV evLY 0 1 ev_i pre_A_headOf post_A_headOf 60),
  (60, tt_ri P),
  (61, tt_al 0 62),
  (62, tt_gf evLY 6 3 65),
  (65, tt_il 1 66),
  (66, tt_cV evLY 0 1 ev_i pre_A_bytesOf post_A_bytesOf 69),
  (69, tt_ri P),
  (70, tt_al 0 71),
  (71, tt_gf evLY 6 3 74),
  (74, tt_il 1 75),
  (75, tt_cV evLY 0 1 ev_i pre_A_instructionsOf post_A_instructionsOf 78),
  (78, tt_ri P),
  (79, tt_th 1 PX)]
abbrev rm_B_block : Room := { frames := 6, cells := 1, slots := 6, locals := 192 }
set_option maxRecDepth 20000 in
theorem ok_B_block (l : Launch) (J : ev_K) (P : Int32 → ev_M → ev_L → Prop) (PX : Nat → ev_M → ev_L → Prop) (X : ev_X l rm_B_block evLY evCl ws_B_block prog_1_method_6_code 3 y_B_block.cls J) (Z : ev_Z J prog_1_method_6_code .ireturn ev_i P) (T : ex_Z J prog_1_method_6_code PX) : ev_oks J (I_B_block P PX) :=
  ⟨qq_iln X 1 rfl d_B_block_0,
  qq_iflt X 15 (by decide) d_B_block_1,
  qq_iln X 1 rfl d_B_block_4,
  qq_aln X 0 rfl d_B_block_5,
  qq_gf X 6 3 rfl (fun w h => List.mem_cons_of_mem _ (inE_B w h)) (by decide) (List.mem_cons_of_mem _ mw_196) d_B_block_6,
  qq_cV X 0 rfl (c_A_size l) (fun hts => cwV 0 hts (evGV (mw_487) (mw_488) (mw_489) (mw_4) (mw_490)) rfl rfl rfl (by decide +kernel) ⟨Nat.le_of_ble_eq_true rfl, Nat.le_of_ble_eq_true rfl⟩) d_B_block_9,
  qq_iclt X 25 (by decide) d_B_block_12,
  qq_th T 0 (by decide) (List.mem_of_getElem? (i := 5) rfl) d_B_block_15 d_B_block_18 d_B_block_19 d_B_block_21 d_B_block_24,
  qq_iln X 2 rfl d_B_block_25,
  qq_tsw X [(0, 52), (1, 61), (2, 70)] 79 (by decide) (by simp [ev_tOk]) d_B_block_26,
  qq_aln X 0 rfl d_B_block_52,
  qq_gf X 6 3 rfl (fun w h => List.mem_cons_of_mem _ (inE_B w h)) (by decide) (List.mem_cons_of_mem _ mw_196) d_B_block_53,
  qq_iln X 1 rfl d_B_block_56,
  qq_cV X 0 rfl (c_A_headOf l) (fun hts => cwV 1 hts (evGV (mw_499) (mw_500) (mw_501) (mw_4) (mw_502)) rfl rfl rfl (by decide +kernel) ⟨Nat.le_of_ble_eq_true rfl, Nat.le_of_ble_eq_true rfl⟩) d_B_block_57,
  qq_ri Z d_B_block_60,
  qq_aln X 0 rfl d_B_block_61,
  qq_gf X 6 3 rfl (fun w h => List.mem_cons_of_mem _ (inE_B w h)) (by decide) (List.mem_cons_of_mem _ mw_196) d_B_block_62,
  qq_iln X 1 rfl d_B_block_65,
  qq_cV X 0 rfl (c_A_bytesOf l) (fun hts => cwV 1 hts (evGV (mw_503) (mw_504) (mw_505) (mw_4) (mw_506)) rfl rfl rfl (by decide +kernel) ⟨Nat.le_of_ble_eq_true rfl, Nat.le_of_ble_eq_true rfl⟩) d_B_block_66,
  qq_ri Z d_B_block_69,
  qq_aln X 0 rfl d_B_block_70,
  qq_gf X 6 3 rfl (fun w h => List.mem_cons_of_mem _ (inE_B w h)) (by decide) (List.mem_cons_of_mem _ mw_196) d_B_block_71,
  qq_iln X 1 rfl d_B_block_74,
  qq_cV X 0 rfl (c_A_instructionsOf l) (fun hts => cwV 1 hts (evGV (mw_507) (mw_508) (mw_509) (mw_4) (mw_510)) rfl rfl rfl (by decide +kernel) ⟨Nat.le_of_ble_eq_true rfl, Nat.le_of_ble_eq_true rfl⟩) d_B_block_75,
  qq_ri Z d_B_block_78,
  qq_th T 1 (by decide) (List.mem_of_getElem? (i := 6) rfl) d_B_block_79 d_B_block_82 d_B_block_83 d_B_block_85 d_B_block_88, trivial⟩
set_option maxHeartbeats 4000000 in
set_option maxRecDepth 100000 in
theorem c_B_block (l : Launch) (hst : l.stackTraces = false) : ex_C ev_i l y_B_block ws_B_block rm_B_block evLY evCl pre_B_block post_B_block px_B_block := by
  refine ex_meth0 hst rfl (by decide) rfl ev_rop_i ?_ (by decide) I_B_block (ok_B_block l) 40 ?_
  · rintro _ σ τ ⟨a, w, rfl, hp⟩
    exact Nat.le_of_ble_eq_true rfl
  · rintro _ σ τ ⟨a, w, rfl, hp⟩
    have no : (¬ (0 ≤ a ∧ a < σ 8 10)) → px_B_block [.ref 0, .int a, .int w] σ τ 0 σ τ := fun h => ⟨Or.inl ⟨rfl, h⟩, rfl, rfl⟩
    refine br_c (fun h => ?_) (fun h => ?_)
    · exact no (fun q => absurd q.1 (Int32.not_le.mpr h))
    · refine ⟨rfl, ?_⟩
      rintro _ σ1 τ ⟨rfl, rfl, rfl⟩
      refine br_c (fun h2 => ?_) (fun h2 => ?_)
      · refine ⟨fun h0 => ?_, fun h0 => ⟨fun h1 => ?_, fun h1 => ⟨fun hw => ?_, fun hw => ?_⟩⟩⟩
        · refine ⟨⟨a, rfl, hp⟩, ?_⟩
          rintro _ σ1 τ ⟨rfl, rfl, rfl⟩
          exact ⟨⟨i_ge0 h, h2⟩, Or.inl ⟨h0, if_pos ⟨i_ge0 h, h2⟩⟩, rfl, rfl⟩
        · refine ⟨⟨a, rfl, hp⟩, ?_⟩
          rintro _ σ1 τ ⟨rfl, rfl, rfl⟩
          exact ⟨⟨i_ge0 h, h2⟩, Or.inr (Or.inl ⟨h1, if_pos ⟨i_ge0 h, h2⟩⟩), rfl, rfl⟩
        · refine ⟨⟨a, rfl, hp⟩, ?_⟩
          rintro _ σ1 τ ⟨rfl, rfl, rfl⟩
          exact ⟨⟨i_ge0 h, h2⟩, Or.inr (Or.inr ⟨hw, if_pos ⟨i_ge0 h, h2⟩⟩), rfl, rfl⟩
        · exact ⟨Or.inr ⟨rfl, ⟨i_ge0 h, h2⟩, h0, h1, hw⟩, rfl, rfl⟩
      · exact no (fun q => h2 q.2)
def y_B_register : MethodName := ⟨RX6, "register", "(I)I"⟩
def ws_B_register : List Cond := .code y_B_register prog_1_method_12_code 2 (some .int) :: evW
theorem d_B_register_0 : decode prog_1_method_12_code 0 = .ok (.iload_n 1, 1) := by decide +kernel
theorem d_B_register_1 : decode prog_1_method_12_code 1 = .ok (.ifCond .lt 17, 3) := by decide +kernel
theorem d_B_register_4 : decode prog_1_method_12_code 4 = .ok (.iload_n 1, 1) := by decide +kernel
theorem d_B_register_5 : decode prog_1_method_12_code 5 = .ok (.iconst 4, 1) := by decide +kernel
theorem d_B_register_6 : decode prog_1_method_12_code 6 = .ok (.if_icmp .ge 12, 3) := by decide +kernel
theorem d_B_register_9 : decode prog_1_method_12_code 9 = .ok (.aload_n 0, 1) := by decide +kernel
theorem d_B_register_10 : decode prog_1_method_12_code 10 = .ok (.getfield 44, 3) := by decide +kernel
theorem d_B_register_13 : decode prog_1_method_12_code 13 = .ok (.iload_n 1, 1) := by decide +kernel
theorem d_B_register_14 : decode prog_1_method_12_code 14 = .ok (.invokevirtual 158, 3) := by decide +kernel
theorem d_B_register_17 : decode prog_1_method_12_code 17 = .ok (.ireturn, 1) := by decide +kernel
theorem d_B_register_18 : decode prog_1_method_12_code 18 = .ok (.iload_n 1, 1) := by decide +kernel
theorem d_B_register_19 : decode prog_1_method_12_code 19 = .ok (.tableswitch 49 4 6 #[25, 33, 41], 25) := by decide +kernel
theorem d_B_register_44 : decode prog_1_method_12_code 44 = .ok (.aload_n 0, 1) := by decide +kernel
theorem d_B_register_45 : decode prog_1_method_12_code 45 = .ok (.getfield 44, 3) := by decide +kernel
theorem d_B_register_48 : decode prog_1_method_12_code 48 = .ok (.invokevirtual 161, 3) := by decide +kernel
theorem d_B_register_51 : decode prog_1_method_12_code 51 = .ok (.ireturn, 1) := by decide +kernel
theorem d_B_register_52 : decode prog_1_method_12_code 52 = .ok (.aload_n 0, 1) := by decide +kernel
theorem d_B_register_53 : decode prog_1_method_12_code 53 = .ok (.getfield 44, 3) := by decide +kernel
theorem d_B_register_56 : decode prog_1_method_12_code 56 = .ok (.invokevirtual 164, 3) := by decide +kernel
theorem d_B_register_59 : decode prog_1_method_12_code 59 = .ok (.ireturn, 1) := by decide +kernel
theorem d_B_register_60 : decode prog_1_method_12_code 60 = .ok (.aload_n 0, 1) := by decide +kernel
theorem d_B_register_61 : decode prog_1_method_12_code 61 = .ok (.getfield 44, 3) := by decide +kernel
theorem d_B_register_64 : decode prog_1_method_12_code 64 = .ok (.invokevirtual 167, 3) := by decide +kernel
theorem d_B_register_67 : decode prog_1_method_12_code 67 = .ok (.ireturn, 1) := by decide +kernel
theorem d_B_register_68 : decode prog_1_method_12_code 68 = .ok (.new 48, 3) := by decide +kernel
theorem d_B_register_71 : decode prog_1_method_12_code 71 = .ok (.dup, 1) := by decide +kernel
theorem d_B_register_72 : decode prog_1_method_12_code 72 = .ok (.ldc 170, 2) := by decide +kernel
theorem d_B_register_74 : decode prog_1_method_12_code 74 = .ok (.invokespecial 52, 3) := by decide +kernel
theorem d_B_register_77 : decode prog_1_method_12_code 77 = .ok (.athrow, 1) := by decide +kernel
def I_B_register (P : Int32 → ev_M → ev_L → Prop) (PX : Nat → ev_M → ev_L → Prop) : List (Nat × ev_T) := [(0, tt_il 1 1),
  (1, tt_iflt 18 4),
  (4, tt_il 1 5),
  (5, tt_k 4 6),
  (6, tt_icge 18 9),
  (9, tt_al 0 10),
  (10, tt_gf evLY 6 5 13),
  (13, tt_il 1 14),
  (14, tt_cV evLY 2 1 ev_i pre_M_registerValue post_M_registerValue 17),
  (17, tt_ri P),
  (18, tt_il 1 19),
  (19, tt_sw [(4, 44), (5, 52), (6, 60)] 68),
  (44, tt_al 0 45),
  (45, tt_gf evLY 6 5 48),
  (48, tt_cV evLY 2 0 ev_i pre_M_position post_M_position 51),
  (51, tt_ri P),
  (52, tt_al 0 53),
  (53, tt_gf evLY 6 5 56),
  (56, tt_cV evLY 2 0 ev_i pre_M_pushed post_M_pushed 59),
  (59, tt_ri P),
  (60, tt_al 0 61),
  (61, tt_gf evLY 6 5 64),
  (64, tt_cV evLY 2 0 ev_i pre_M_printed post_M_printed 67),
  (67, tt_ri P),
  (68, tt_th 0 PX)]
abbrev rm_B_register : Room := { frames := 6, cells := 1, slots := 6, locals := 192 }
set_option maxRecDepth 20000 in
theorem ok_B_register (l : Launch) (J : ev_K) (P : Int32 → ev_M → ev_L → Prop) (PX : Nat → ev_M → ev_L → Prop) (X : ev_X l rm_B_register evLY evCl ws_B_register prog_1_method_12_code 2 y_B_register.cls J) (Z : ev_Z J prog_1_method_12_code .ireturn ev_i P) (T : ex_Z J prog_1_method_12_code PX) : ev_oks J (I_B_register P PX) :=
  ⟨qq_iln X 1 rfl d_B_register_0,
  qq_iflt X 18 (by decide) d_B_register_1,
  qq_iln X 1 rfl d_B_register_4,
  qq_ic X 4 (by decide) d_B_register_5,
  qq_icge X 18 (by decide) d_B_register_6,
  qq_aln X 0 rfl d_B_register_9,
  qq_gf X 6 5 rfl (fun w h => List.mem_cons_of_mem _ (inE_B w h)) (by decide) (List.mem_cons_of_mem _ mw_198) d_B_register_10,
  qq_iln X 1 rfl d_B_register_13,
  qq_cV X 2 rfl (c_M_registerValue l) (fun hts => cwV 1 hts (evGV (mw_696) (mw_697) (mw_698) (mw_7) (mw_699)) rfl rfl rfl (by decide +kernel) ⟨Nat.le_of_ble_eq_true rfl, Nat.le_of_ble_eq_true rfl⟩) d_B_register_14,
  qq_ri Z d_B_register_17,
  qq_iln X 1 rfl d_B_register_18,
  qq_tsw X [(4, 44), (5, 52), (6, 60)] 68 (by decide) (by simp [ev_tOk]) d_B_register_19,
  qq_aln X 0 rfl d_B_register_44,
  qq_gf X 6 5 rfl (fun w h => List.mem_cons_of_mem _ (inE_B w h)) (by decide) (List.mem_cons_of_mem _ mw_198) d_B_register_45,
  qq_cV X 2 rfl (c_M_position l) (fun hts => cwV 0 hts (evGV (mw_700) (mw_701) (mw_702) (mw_7) (mw_703)) rfl rfl rfl (by decide +kernel) ⟨Nat.le_of_ble_eq_true rfl, Nat.le_of_ble_eq_true rfl⟩) d_B_register_48,
  qq_ri Z d_B_register_51,
  qq_aln X 0 rfl d_B_register_52,
  qq_gf X 6 5 rfl (fun w h => List.mem_cons_of_mem _ (inE_B w h)) (by decide) (List.mem_cons_of_mem _ mw_198) d_B_register_53,
  qq_cV X 2 rfl (c_M_pushed l) (fun hts => cwV 0 hts (evGV (mw_704) (mw_705) (mw_706) (mw_7) (mw_707)) rfl rfl rfl (by decide +kernel) ⟨Nat.le_of_ble_eq_true rfl, Nat.le_of_ble_eq_true rfl⟩) d_B_register_56,
  qq_ri Z d_B_register_59,
  qq_aln X 0 rfl d_B_register_60,
  qq_gf X 6 5 rfl (fun w h => List.mem_cons_of_mem _ (inE_B w h)) (by decide) (List.mem_cons_of_mem _ mw_198) d_B_register_61,
  qq_cV X 2 rfl (c_M_printed l) (fun hts => cwV 0 hts (evGV (mw_708) (mw_709) (mw_710) (mw_7) (mw_711)) rfl rfl rfl (by decide +kernel) ⟨Nat.le_of_ble_eq_true rfl, Nat.le_of_ble_eq_true rfl⟩) d_B_register_64,
  qq_ri Z d_B_register_67,
  qq_th T 0 (by decide) (List.mem_of_getElem? (i := 12) rfl) d_B_register_68 d_B_register_71 d_B_register_72 d_B_register_74 d_B_register_77, trivial⟩
set_option maxHeartbeats 4000000 in
set_option maxRecDepth 100000 in
theorem c_B_register (l : Launch) (hst : l.stackTraces = false) : ex_C ev_i l y_B_register ws_B_register rm_B_register evLY evCl pre_B_register post_B_register px_B_register := by
  refine ex_meth0 hst rfl (by decide) rfl ev_rop_i ?_ (by decide) I_B_register (ok_B_register l) 40 ?_
  · rintro _ σ τ ⟨a, rfl⟩
    exact Nat.le_of_ble_eq_true rfl
  · rintro _ σ τ ⟨a, rfl⟩
    have h4 : (4 : Int32).toInt = 4 := rfl
    have h5 : (5 : Int32).toInt = 5 := rfl
    have h6 : (6 : Int32).toInt = 6 := rfl
    have h0 : (0 : Int32).toInt = 0 := rfl
    have sw : (¬ (0 ≤ a ∧ a < 4)) → ev_wp (I_B_register (post_B_register [.ref 0, .int a] σ τ) (px_B_register [.ref 0, .int a] σ τ)) [] 30 18 [.ref 0, .int a] [] σ τ 0 (fun _ _ _ _ _ _ => False) := by
      intro hn
      have hn4 : ¬ a = 4 → ¬ a = 5 → ¬ a = 6 → ¬ (0 ≤ a ∧ a ≤ 6) := by
        intro x4 x5 x6 q
        rw [Int32.le_iff_toInt_le, Int32.le_iff_toInt_le] at q
        have hna : ¬ (0 ≤ a.toInt ∧ a.toInt < 4) := fun z => hn ⟨by rw [Int32.le_iff_toInt_le]; omega, by rw [Int32.lt_iff_toInt_lt]; omega⟩
        have y4 : ¬ a.toInt = 4 := fun z => x4 (Int32.toInt_inj.mp (z.trans h4.symm))
        have y5 : ¬ a.toInt = 5 := fun z => x5 (Int32.toInt_inj.mp (z.trans h5.symm))
        have y6 : ¬ a.toInt = 6 := fun z => x6 (Int32.toInt_inj.mp (z.trans h6.symm))
        omega
      refine ⟨fun x4 => ?_, fun x4 => ⟨fun x5 => ?_, fun x5 => ⟨fun x6 => ?_, fun x6 => ?_⟩⟩⟩
      · subst x4
        refine ⟨rfl, ?_⟩
        rintro _ σ1 τ ⟨rfl, rfl, rfl⟩
        exact ⟨by decide, rfl, rfl, rfl⟩
      · subst x5
        refine ⟨rfl, ?_⟩
        rintro _ σ1 τ ⟨rfl, rfl, rfl⟩
        exact ⟨by decide, rfl, rfl, rfl⟩
      · subst x6
        refine ⟨rfl, ?_⟩
        rintro _ σ1 τ ⟨rfl, rfl, rfl⟩
        exact ⟨by decide, rfl, rfl, rfl⟩
      · exact ⟨rfl, hn4 x4 x5 x6, rfl, rfl⟩
    refine br_c (fun h => ?_) (fun h => ?_)
    · exact sw (fun q => absurd q.1 (Int32.not_le.mpr h))
    · refine br_c (fun h2 => ?_) (fun h2 => ?_)
      · exact sw (fun q => absurd q.2 (Int32.not_lt.mpr h2))
      · refine ⟨⟨a, rfl⟩, ?_⟩
        rintro _ σ1 τ ⟨rfl, rfl, rfl⟩
        have h2' := Int32.not_le.mp h2
        refine ⟨⟨i_ge0 h, ?_⟩, ?_, rfl, rfl⟩
        · rw [Int32.le_iff_toInt_le]
          have := Int32.lt_iff_toInt_lt.mp h2'
          omega
        · rw [and3 h h2']
          exact (if_pos h2').symm
def y_B_declare : MethodName := ⟨RX6, "declare", "(II)I"⟩
def ws_B_declare : List Cond := .code y_B_declare prog_1_method_3_code 3 (some .int) :: evW
theorem d_B_declare_0 : decode prog_1_method_3_code 0 = .ok (.iload_n 2, 1) := by decide +kernel
theorem d_B_declare_1 : decode prog_1_method_3_code 1 = .ok (.iconst 1, 1) := by decide +kernel
theorem d_B_declare_2 : decode prog_1_method_3_code 2 = .ok (.if_icmp .lt 21, 3) := by decide +kernel
theorem d_B_declare_5 : decode prog_1_method_3_code 5 = .ok (.iload_n 2, 1) := by decide +kernel
theorem d_B_declare_6 : decode prog_1_method_3_code 6 = .ok (.bipush 96, 2) := by decide +kernel
theorem d_B_declare_8 : decode prog_1_method_3_code 8 = .ok (.if_icmp .gt 15, 3) := by decide +kernel
theorem d_B_declare_11 : decode prog_1_method_3_code 11 = .ok (.iload_n 1, 1) := by decide +kernel
theorem d_B_declare_12 : decode prog_1_method_3_code 12 = .ok (.ifCond .lt 11, 3) := by decide +kernel
theorem d_B_declare_15 : decode prog_1_method_3_code 15 = .ok (.iload_n 1, 1) := by decide +kernel
theorem d_B_declare_16 : decode prog_1_method_3_code 16 = .ok (.bipush 96, 2) := by decide +kernel
theorem d_B_declare_18 : decode prog_1_method_3_code 18 = .ok (.iload_n 2, 1) := by decide +kernel
theorem d_B_declare_19 : decode prog_1_method_3_code 19 = .ok (.isub, 1) := by decide +kernel
theorem d_B_declare_20 : decode prog_1_method_3_code 20 = .ok (.if_icmp .le 13, 3) := by decide +kernel
theorem d_B_declare_23 : decode prog_1_method_3_code 23 = .ok (.new 62, 3) := by decide +kernel
theorem d_B_declare_26 : decode prog_1_method_3_code 26 = .ok (.dup, 1) := by decide +kernel
theorem d_B_declare_27 : decode prog_1_method_3_code 27 = .ok (.ldc 64, 2) := by decide +kernel
theorem d_B_declare_29 : decode prog_1_method_3_code 29 = .ok (.invokespecial 66, 3) := by decide +kernel
theorem d_B_declare_32 : decode prog_1_method_3_code 32 = .ok (.athrow, 1) := by decide +kernel
theorem d_B_declare_33 : decode prog_1_method_3_code 33 = .ok (.aload_n 0, 1) := by decide +kernel
theorem d_B_declare_34 : decode prog_1_method_3_code 34 = .ok (.getfield 19, 3) := by decide +kernel
theorem d_B_declare_37 : decode prog_1_method_3_code 37 = .ok (.invokevirtual 67, 3) := by decide +kernel
theorem d_B_declare_40 : decode prog_1_method_3_code 40 = .ok (.ifCond .eq 13, 3) := by decide +kernel
theorem d_B_declare_43 : decode prog_1_method_3_code 43 = .ok (.new 71, 3) := by decide +kernel
theorem d_B_declare_46 : decode prog_1_method_3_code 46 = .ok (.dup, 1) := by decide +kernel
theorem d_B_declare_47 : decode prog_1_method_3_code 47 = .ok (.ldc 73, 2) := by decide +kernel
theorem d_B_declare_49 : decode prog_1_method_3_code 49 = .ok (.invokespecial 75, 3) := by decide +kernel
theorem d_B_declare_52 : decode prog_1_method_3_code 52 = .ok (.athrow, 1) := by decide +kernel
theorem d_B_declare_53 : decode prog_1_method_3_code 53 = .ok (.aload_n 0, 1) := by decide +kernel
theorem d_B_declare_54 : decode prog_1_method_3_code 54 = .ok (.getfield 19, 3) := by decide +kernel
theorem d_B_declare_57 : decode prog_1_method_3_code 57 = .ok (.iload_n 1, 1) := by decide +kernel
theorem d_B_declare_58 : decode prog_1_method_3_code 58 = .ok (.iload_n 2, 1) := by decide +kernel
theorem d_B_declare_59 : decode prog_1_method_3_code 59 = .ok (.invokevirtual 76, 3) := by decide +kernel
theorem d_B_declare_62 : decode prog_1_method_3_code 62 = .ok (.aload_n 0, 1) := by decide +kernel
theorem d_B_declare_63 : decode prog_1_method_3_code 63 = .ok (.invokevirtual 59, 3) := by decide +kernel
theorem d_B_declare_66 : decode prog_1_method_3_code 66 = .ok (.aload_n 0, 1) := by decide +kernel
theorem d_B_declare_67 : decode prog_1_method_3_code 67 = .ok (.getfield 19, 3) := by decide +kernel
theorem d_B_declare_70 : decode prog_1_method_3_code 70 = .ok (.invokevirtual 79, 3) := by decide +kernel
theorem d_B_declare_73 : decode prog_1_method_3_code 73 = .ok (.ireturn, 1) := by decide +kernel
def I_B_declare (P : Int32 → ev_M → ev_L → Prop) (PX : Nat → ev_M → ev_L → Prop) : List (Nat × ev_T) := [(0, tt_il 2 1),
  (1, tt_k 1 2),
  (2, tt_iclt 23 5),
  (5, tt_il 2 6),
  (6, tt_k 96 8),
  (8, tt_icgt 23 11),
  (11, tt_il 1 12),
  (12, tt_iflt 23 15),
  (15, tt_il 1 16),
  (16, tt_k 96 18),
  (18, tt_il 2 19),
  (19, tt_isub 20),
  (20, tt_icle 33 23),
  (23, tt_th 1 PX),
  (33, tt_al 0 34),
  (34, tt_gf evLY 6 1 37),
  (37, tt_cV evLY 5 0 ev_b pre_T_isFull post_T_isFull 40),
  (40, tt_ifeq 53 43),
  (43, tt_th 2 PX),
  (53, tt_al 0 54),
  (54, tt_gf evLY 6 1 57),
  (57, tt_il 1 58),
  (58, tt_il 2 59),
  (59, tt_cV evLY 5 2 ev_n pre_T_add post_T_add 62),
  (62, tt_al 0 63),
  (63, tt_cV evLY 6 0 ev_n pre_B_forgetFindings post_B_forgetFindings 66),
  (66, tt_al 0 67),
  (67, tt_gf evLY 6 1 70),
  (70, tt_cV evLY 5 0 ev_i pre_T_size post_T_size 73),
  (73, tt_ri P)]
abbrev rm_B_declare : Room := { frames := 6, cells := 1, slots := 6, locals := 192 }
set_option maxRecDepth 20000 in
theorem ok_B_declare (l : Launch) (J : ev_K) (P : Int32 → ev_M → ev_L → Prop) (PX : Nat → ev_M → ev_L → Prop) (X : ev_X l rm_B_declare evLY evCl ws_B_declare prog_1_method_3_code 3 y_B_declare.cls J) (Z : ev_Z J prog_1_method_3_code .ireturn ev_i P) (T : ex_Z J prog_1_method_3_code PX) : ev_oks J (I_B_declare P PX) :=
  ⟨qq_iln X 2 rfl d_B_declare_0,
  qq_ic X 1 (by decide) d_B_declare_1,
  qq_iclt X 23 (by decide) d_B_declare_2,
  qq_iln X 2 rfl d_B_declare_5,
  qq_bp X 96 (by decide) d_B_declare_6,
  qq_icgt X 23 (by decide) d_B_declare_8,
  qq_iln X 1 rfl d_B_declare_11,
  qq_iflt X 23 (by decide) d_B_declare_12,
  qq_iln X 1 rfl d_B_declare_15,
  qq_bp X 96 (by decide) d_B_declare_16,
  qq_iln X 2 rfl d_B_declare_18,
  qq_isub X d_B_declare_19,
  qq_icle X 33 (by decide) d_B_declare_20,
  qq_th T 1 (by decide) (List.mem_of_getElem? (i := 1) rfl) d_B_declare_23 d_B_declare_26 d_B_declare_27 d_B_declare_29 d_B_declare_32,
  qq_aln X 0 rfl d_B_declare_33,
  qq_gf X 6 1 rfl (fun w h => List.mem_cons_of_mem _ (inE_B w h)) (by decide) (List.mem_cons_of_mem _ mw_194) d_B_declare_34,
  qq_cV X 5 rfl (c_T_isFull l) (fun hts => cwV 0 hts (evGV (mw_350) (mw_351) (mw_352) (mw_3) (mw_353)) rfl rfl rfl (by decide +kernel) ⟨Nat.le_of_ble_eq_true rfl, Nat.le_of_ble_eq_true rfl⟩) d_B_declare_37,
  qq_ifeq X 53 (by decide) d_B_declare_40,
  qq_th T 2 (by decide) (List.mem_of_getElem? (i := 2) rfl) d_B_declare_43 d_B_declare_46 d_B_declare_47 d_B_declare_49 d_B_declare_52,
  qq_aln X 0 rfl d_B_declare_53,
  qq_gf X 6 1 rfl (fun w h => List.mem_cons_of_mem _ (inE_B w h)) (by decide) (List.mem_cons_of_mem _ mw_194) d_B_declare_54,
  qq_iln X 1 rfl d_B_declare_57,
  qq_iln X 2 rfl d_B_declare_58,
  qq_cV X 5 rfl (c_T_add l) (fun hts => cwV 2 hts (evGV (mw_370) (mw_371) (mw_372) (mw_3) (mw_373)) rfl rfl rfl (by decide +kernel) ⟨Nat.le_of_ble_eq_true rfl, Nat.le_of_ble_eq_true rfl⟩) d_B_declare_59,
  qq_aln X 0 rfl d_B_declare_62,
  qq_cV X 6 rfl (c_B_forgetFindings l) (fun hts => cwV 0 hts (evGV (mw_313) (mw_315) (mp_1) (mw_1) (mw_316)) rfl rfl rfl (by decide +kernel) ⟨Nat.le_of_ble_eq_true rfl, Nat.le_of_ble_eq_true rfl⟩) d_B_declare_63,
  qq_aln X 0 rfl d_B_declare_66,
  qq_gf X 6 1 rfl (fun w h => List.mem_cons_of_mem _ (inE_B w h)) (by decide) (List.mem_cons_of_mem _ mw_194) d_B_declare_67,
  qq_cV X 5 rfl (c_T_size l) (fun hts => cwV 0 hts (evGV (mw_375) (mw_376) (mw_377) (mw_3) (mw_378)) rfl rfl rfl (by decide +kernel) ⟨Nat.le_of_ble_eq_true rfl, Nat.le_of_ble_eq_true rfl⟩) d_B_declare_70,
  qq_ri Z d_B_declare_73, trivial⟩
set_option maxHeartbeats 4000000 in
set_option maxRecDepth 100000 in
theorem c_B_declare (l : Launch) (hst : l.stackTraces = false) : ex_C ev_i l y_B_declare ws_B_declare rm_B_declare evLY evCl pre_B_declare post_B_declare px_B_declare := by
  refine ex_meth0 hst rfl (by decide) rfl ev_rop_i ?_ (by decide) I_B_declare (ok_B_declare l) 60 ?_
  · rintro _ σ τ ⟨b, c, rfl, hp⟩
    exact Nat.le_of_ble_eq_true rfl
  · rintro _ σ τ ⟨b, c, rfl, n, n4, en⟩
    have no : ¬ sd_okT b c → px_B_declare [.ref 0, .int b, .int c] σ τ 1 σ τ := fun h => ⟨Or.inl ⟨rfl, h⟩, rfl, rfl⟩
    refine br_c (fun h => ?_) (fun h => ?_)
    · exact no (fun q => absurd q.1 (Int32.not_le.mpr h))
    · refine br_c (fun h2 => ?_) (fun h2 => ?_)
      · exact no (fun q => absurd q.2.1 (Int32.not_le.mpr h2))
      · refine br_c (fun h3 => ?_) (fun h3 => ?_)
        · exact no (fun q => absurd q.2.2.1 (Int32.not_le.mpr h3))
        · refine br_c (fun h4 => ?_) (fun h4 => ?_)
          · have ok : sd_okT b c := ⟨Int32.not_lt.mp h, Int32.not_lt.mp h2, Int32.not_lt.mp h3, h4⟩
            refine ⟨rfl, ?_⟩
            rintro r σ1 τ ⟨rfl, rfl, rfl⟩
            by_cases hf : (4 : Int32) ≤ σ 4 2
            · refine br_f (by rw [decide_eq_true hf]; decide) ?_
              exact ⟨Or.inr ⟨rfl, ok, hf⟩, rfl, rfl⟩
            · refine br_t (by rw [decide_eq_false hf]; rfl) ?_
              have hlt := Int32.not_le.mp hf
              refine ⟨⟨b, c, rfl, by rw [en, Int32.le_iff_toInt_le, nI_toInt (by omega)]; exact Int.natCast_nonneg n, hlt⟩, ?_⟩
              rintro _ σ1 τ ⟨rfl, rfl⟩
              refine ⟨rfl, ?_⟩
              rintro _ σ1 τ ⟨rfl, rfl⟩
              refine ⟨rfl, ?_⟩
              rintro r σ1 τ ⟨rfl, rfl, rfl⟩
              exact ⟨ok, hf, rfl, rfl, rfl⟩
          · exact no (fun q => h4 q.2.2.2)
def y_B_analyse : MethodName := ⟨RX6, "analyse", "()I"⟩
def ws_B_analyse : List Cond := .code y_B_analyse prog_1_method_5_code 1 (some .int) :: evW
theorem d_B_analyse_0 : decode prog_1_method_5_code 0 = .ok (.aload_n 0, 1) := by decide +kernel
theorem d_B_analyse_1 : decode prog_1_method_5_code 1 = .ok (.getfield 37, 3) := by decide +kernel
theorem d_B_analyse_4 : decode prog_1_method_5_code 4 = .ok (.invokevirtual 85, 3) := by decide +kernel
theorem d_B_analyse_7 : decode prog_1_method_5_code 7 = .ok (.aload_n 0, 1) := by decide +kernel
theorem d_B_analyse_8 : decode prog_1_method_5_code 8 = .ok (.getfield 30, 3) := by decide +kernel
theorem d_B_analyse_11 : decode prog_1_method_5_code 11 = .ok (.aload_n 0, 1) := by decide +kernel
theorem d_B_analyse_12 : decode prog_1_method_5_code 12 = .ok (.getfield 10, 3) := by decide +kernel
theorem d_B_analyse_15 : decode prog_1_method_5_code 15 = .ok (.aload_n 0, 1) := by decide +kernel
theorem d_B_analyse_16 : decode prog_1_method_5_code 16 = .ok (.getfield 19, 3) := by decide +kernel
theorem d_B_analyse_19 : decode prog_1_method_5_code 19 = .ok (.invokevirtual 88, 3) := by decide +kernel
theorem d_B_analyse_22 : decode prog_1_method_5_code 22 = .ok (.ifCond .ne 13, 3) := by decide +kernel
theorem d_B_analyse_25 : decode prog_1_method_5_code 25 = .ok (.new 92, 3) := by decide +kernel
theorem d_B_analyse_28 : decode prog_1_method_5_code 28 = .ok (.dup, 1) := by decide +kernel
theorem d_B_analyse_29 : decode prog_1_method_5_code 29 = .ok (.ldc 94, 2) := by decide +kernel
theorem d_B_analyse_31 : decode prog_1_method_5_code 31 = .ok (.invokespecial 96, 3) := by decide +kernel
theorem d_B_analyse_34 : decode prog_1_method_5_code 34 = .ok (.athrow, 1) := by decide +kernel
theorem d_B_analyse_35 : decode prog_1_method_5_code 35 = .ok (.aload_n 0, 1) := by decide +kernel
theorem d_B_analyse_36 : decode prog_1_method_5_code 36 = .ok (.getfield 30, 3) := by decide +kernel
theorem d_B_analyse_39 : decode prog_1_method_5_code 39 = .ok (.invokevirtual 97, 3) := by decide +kernel
theorem d_B_analyse_42 : decode prog_1_method_5_code 42 = .ok (.ireturn, 1) := by decide +kernel
def I_B_analyse (P : Int32 → ev_M → ev_L → Prop) (PX : Nat → ev_M → ev_L → Prop) : List (Nat × ev_T) := [(0, tt_al 0 1),
  (1, tt_gf evLY 6 4 4),
  (4, tt_cV evLY 4 0 ev_n pre_R_forget post_R_forget 7),
  (7, tt_al 0 8),
  (8, tt_gf evLY 6 3 11),
  (11, tt_al 0 12),
  (12, tt_gf evLY 6 0 15),
  (15, tt_al 0 16),
  (16, tt_gf evLY 6 1 19),
  (19, tt_cV evLY 0 2 ev_b pre_A_explore post_A_explore 22),
  (22, tt_ifne 35 25),
  (25, tt_th 3 PX),
  (35, tt_al 0 36),
  (36, tt_gf evLY 6 3 39),
  (39, tt_cV evLY 0 0 ev_i pre_A_size post_A_size 42),
  (42, tt_ri P)]
abbrev rm_B_analyse : Room := { frames := 6, cells := 1, slots := 6, locals := 192 }
set_option maxRecDepth 20000 in
theorem ok_B_analyse (l : Launch) (J : ev_K) (P : Int32 → ev_M → ev_L → Prop) (PX : Nat → ev_M → ev_L → Prop) (X : ev_X l rm_B_analyse evLY evCl ws_B_analyse prog_1_method_5_code 1 y_B_analyse.cls J) (Z : ev_Z J prog_1_method_5_code .ireturn ev_i P) (T : ex_Z J prog_1_method_5_code PX) : ev_oks J (I_B_analyse P PX) :=
  ⟨qq_aln X 0 rfl d_B_analyse_0,
  qq_gf X 6 4 rfl (fun w h => List.mem_cons_of_mem _ (inE_B w h)) (by decide) (List.mem_cons_of_mem _ mw_197) d_B_analyse_1,
  qq_cV X 4 rfl (c_R_forget l) (fun hts => cwV 0 hts (evGV (mw_321) (mw_322) (mw_323) (mw_6) (mw_324)) rfl rfl rfl (by decide +kernel) ⟨Nat.le_of_ble_eq_true rfl, Nat.le_of_ble_eq_true rfl⟩) d_B_analyse_4,
  qq_aln X 0 rfl d_B_analyse_7,
  qq_gf X 6 3 rfl (fun w h => List.mem_cons_of_mem _ (inE_B w h)) (by decide) (List.mem_cons_of_mem _ mw_196) d_B_analyse_8,
  qq_aln X 0 rfl d_B_analyse_11,
  qq_gf X 6 0 rfl (fun w h => List.mem_cons_of_mem _ (inE_B w h)) (by decide) (List.mem_cons_of_mem _ mw_193) d_B_analyse_12,
  qq_aln X 0 rfl d_B_analyse_15,
  qq_gf X 6 1 rfl (fun w h => List.mem_cons_of_mem _ (inE_B w h)) (by decide) (List.mem_cons_of_mem _ mw_194) d_B_analyse_16,
  qq_cV X 0 rfl (c_A_explore l) (fun hts => cwV 2 hts (evGV (mw_395) (mw_396) (mw_397) (mw_4) (mw_398)) rfl rfl rfl (by decide +kernel) ⟨Nat.le_of_ble_eq_true rfl, Nat.le_of_ble_eq_true rfl⟩) d_B_analyse_19,
  qq_ifne X 35 (by decide) d_B_analyse_22,
  qq_th T 3 (by decide) (List.mem_of_getElem? (i := 4) rfl) d_B_analyse_25 d_B_analyse_28 d_B_analyse_29 d_B_analyse_31 d_B_analyse_34,
  qq_aln X 0 rfl d_B_analyse_35,
  qq_gf X 6 3 rfl (fun w h => List.mem_cons_of_mem _ (inE_B w h)) (by decide) (List.mem_cons_of_mem _ mw_196) d_B_analyse_36,
  qq_cV X 0 rfl (c_A_size l) (fun hts => cwV 0 hts (evGV (mw_487) (mw_488) (mw_489) (mw_4) (mw_490)) rfl rfl rfl (by decide +kernel) ⟨Nat.le_of_ble_eq_true rfl, Nat.le_of_ble_eq_true rfl⟩) d_B_analyse_39,
  qq_ri Z d_B_analyse_42, trivial⟩
set_option maxHeartbeats 4000000 in
set_option maxRecDepth 100000 in
theorem c_B_analyse (l : Launch) (hst : l.stackTraces = false) : ex_C ev_i l y_B_analyse ws_B_analyse rm_B_analyse evLY evCl pre_B_analyse post_B_analyse px_B_analyse := by
  refine ex_meth0 hst rfl (by decide) rfl ev_rop_i ?_ (by decide) I_B_analyse (ok_B_analyse l) 60 ?_
  · rintro _ σ τ ⟨rfl, hp⟩
    exact Nat.le_of_ble_eq_true rfl
  · rintro _ σ τ ⟨rfl, hD, hby⟩
    refine ⟨rfl, ?_⟩
    rintro _ σ1 τ ⟨rfl, rfl⟩
    refine ⟨⟨rfl, hD, hby⟩, ?_⟩
    rintro r σ2 τ ⟨rfl, hF, ⟨rfl, hT⟩ | ⟨rfl, hN⟩⟩
    · refine br_nt (by decide) ?_
      refine ⟨rfl, ?_⟩
      rintro r σ3 τ ⟨rfl, rfl, rfl⟩
      exact ⟨hF, hT, rfl, rfl⟩
    · refine br_nf rfl ?_
      exact ⟨rfl, hF, hN, rfl⟩
def y_B_rewrite : MethodName := ⟨RX6, "rewrite", "()I"⟩
def ws_B_rewrite : List Cond := .code y_B_rewrite prog_1_method_8_code 1 (some .int) :: evW
theorem d_B_rewrite_0 : decode prog_1_method_8_code 0 = .ok (.aload_n 0, 1) := by decide +kernel
theorem d_B_rewrite_1 : decode prog_1_method_8_code 1 = .ok (.getfield 30, 3) := by decide +kernel
theorem d_B_rewrite_4 : decode prog_1_method_8_code 4 = .ok (.invokevirtual 115, 3) := by decide +kernel
theorem d_B_rewrite_7 : decode prog_1_method_8_code 7 = .ok (.ifCond .ne 13, 3) := by decide +kernel
theorem d_B_rewrite_10 : decode prog_1_method_8_code 10 = .ok (.new 71, 3) := by decide +kernel
theorem d_B_rewrite_13 : decode prog_1_method_8_code 13 = .ok (.dup, 1) := by decide +kernel
theorem d_B_rewrite_14 : decode prog_1_method_8_code 14 = .ok (.ldc 118, 2) := by decide +kernel
theorem d_B_rewrite_16 : decode prog_1_method_8_code 16 = .ok (.invokespecial 75, 3) := by decide +kernel
theorem d_B_rewrite_19 : decode prog_1_method_8_code 19 = .ok (.athrow, 1) := by decide +kernel
theorem d_B_rewrite_20 : decode prog_1_method_8_code 20 = .ok (.aload_n 0, 1) := by decide +kernel
theorem d_B_rewrite_21 : decode prog_1_method_8_code 21 = .ok (.getfield 37, 3) := by decide +kernel
theorem d_B_rewrite_24 : decode prog_1_method_8_code 24 = .ok (.aload_n 0, 1) := by decide +kernel
theorem d_B_rewrite_25 : decode prog_1_method_8_code 25 = .ok (.getfield 10, 3) := by decide +kernel
theorem d_B_rewrite_28 : decode prog_1_method_8_code 28 = .ok (.aload_n 0, 1) := by decide +kernel
theorem d_B_rewrite_29 : decode prog_1_method_8_code 29 = .ok (.getfield 30, 3) := by decide +kernel
theorem d_B_rewrite_32 : decode prog_1_method_8_code 32 = .ok (.invokevirtual 120, 3) := by decide +kernel
theorem d_B_rewrite_35 : decode prog_1_method_8_code 35 = .ok (.ifCond .ne 13, 3) := by decide +kernel
theorem d_B_rewrite_38 : decode prog_1_method_8_code 38 = .ok (.new 92, 3) := by decide +kernel
theorem d_B_rewrite_41 : decode prog_1_method_8_code 41 = .ok (.dup, 1) := by decide +kernel
theorem d_B_rewrite_42 : decode prog_1_method_8_code 42 = .ok (.ldc 124, 2) := by decide +kernel
theorem d_B_rewrite_44 : decode prog_1_method_8_code 44 = .ok (.invokespecial 96, 3) := by decide +kernel
theorem d_B_rewrite_47 : decode prog_1_method_8_code 47 = .ok (.athrow, 1) := by decide +kernel
theorem d_B_rewrite_48 : decode prog_1_method_8_code 48 = .ok (.aload_n 0, 1) := by decide +kernel
theorem d_B_rewrite_49 : decode prog_1_method_8_code 49 = .ok (.getfield 37, 3) := by decide +kernel
theorem d_B_rewrite_52 : decode prog_1_method_8_code 52 = .ok (.invokevirtual 126, 3) := by decide +kernel
theorem d_B_rewrite_55 : decode prog_1_method_8_code 55 = .ok (.ireturn, 1) := by decide +kernel
def I_B_rewrite (P : Int32 → ev_M → ev_L → Prop) (PX : Nat → ev_M → ev_L → Prop) : List (Nat × ev_T) := [(0, tt_al 0 1),
  (1, tt_gf evLY 6 3 4),
  (4, tt_cV evLY 0 0 ev_b pre_A_exists post_A_exists 7),
  (7, tt_ifne 20 10),
  (10, tt_th 2 PX),
  (20, tt_al 0 21),
  (21, tt_gf evLY 6 4 24),
  (24, tt_al 0 25),
  (25, tt_gf evLY 6 0 28),
  (28, tt_al 0 29),
  (29, tt_gf evLY 6 3 32),
  (32, tt_cV evLY 4 2 ev_b pre_R_build post_R_build 35),
  (35, tt_ifne 48 38),
  (38, tt_th 3 PX),
  (48, tt_al 0 49),
  (49, tt_gf evLY 6 4 52),
  (52, tt_cV evLY 4 0 ev_i pre_R_used post_R_used 55),
  (55, tt_ri P)]
abbrev rm_B_rewrite : Room := { frames := 6, cells := 1, slots := 6, locals := 192 }
set_option maxRecDepth 20000 in
theorem ok_B_rewrite (l : Launch) (J : ev_K) (P : Int32 → ev_M → ev_L → Prop) (PX : Nat → ev_M → ev_L → Prop) (X : ev_X l rm_B_rewrite evLY evCl ws_B_rewrite prog_1_method_8_code 1 y_B_rewrite.cls J) (Z : ev_Z J prog_1_method_8_code .ireturn ev_i P) (T : ex_Z J prog_1_method_8_code PX) : ev_oks J (I_B_rewrite P PX) :=
  ⟨qq_aln X 0 rfl d_B_rewrite_0,
  qq_gf X 6 3 rfl (fun w h => List.mem_cons_of_mem _ (inE_B w h)) (by decide) (List.mem_cons_of_mem _ mw_196) d_B_rewrite_1,
  qq_cV X 0 rfl (c_A_exists l) (fun hts => cwV 0 hts (evGV (mw_519) (mw_221) (mw_222) (mw_4) (mw_223)) rfl rfl rfl (by decide +kernel) ⟨Nat.le_of_ble_eq_true rfl, Nat.le_of_ble_eq_true rfl⟩) d_B_rewrite_4,
  qq_ifne X 20 (by decide) d_B_rewrite_7,
  qq_th T 2 (by decide) (List.mem_of_getElem? (i := 7) rfl) d_B_rewrite_10 d_B_rewrite_13 d_B_rewrite_14 d_B_rewrite_16 d_B_rewrite_19,
  qq_aln X 0 rfl d_B_rewrite_20,
  qq_gf X 6 4 rfl (fun w h => List.mem_cons_of_mem _ (inE_B w h)) (by decide) (List.mem_cons_of_mem _ mw_197) d_B_rewrite_21,
  qq_aln X 0 rfl d_B_rewrite_24,
  qq_gf X 6 0 rfl (fun w h => List.mem_cons_of_mem _ (inE_B w h)) (by decide) (List.mem_cons_of_mem _ mw_193) d_B_rewrite_25,
  qq_aln X 0 rfl d_B_rewrite_28,
  qq_gf X 6 3 rfl (fun w h => List.mem_cons_of_mem _ (inE_B w h)) (by decide) (List.mem_cons_of_mem _ mw_196) d_B_rewrite_29,
  qq_cV X 4 rfl (c_R_build l) (fun hts => cwV 2 hts (evGV (mw_521) (mw_522) (mw_523) (mw_6) (mw_524)) rfl rfl rfl (by decide +kernel) ⟨Nat.le_of_ble_eq_true rfl, Nat.le_of_ble_eq_true rfl⟩) d_B_rewrite_32,
  qq_ifne X 48 (by decide) d_B_rewrite_35,
  qq_th T 3 (by decide) (List.mem_of_getElem? (i := 8) rfl) d_B_rewrite_38 d_B_rewrite_41 d_B_rewrite_42 d_B_rewrite_44 d_B_rewrite_47,
  qq_aln X 0 rfl d_B_rewrite_48,
  qq_gf X 6 4 rfl (fun w h => List.mem_cons_of_mem _ (inE_B w h)) (by decide) (List.mem_cons_of_mem _ mw_197) d_B_rewrite_49,
  qq_cV X 4 rfl (c_R_used l) (fun hts => cwV 0 hts (evGV (mw_577) (mw_578) (mw_579) (mw_6) (mw_580)) rfl rfl rfl (by decide +kernel) ⟨Nat.le_of_ble_eq_true rfl, Nat.le_of_ble_eq_true rfl⟩) d_B_rewrite_52,
  qq_ri Z d_B_rewrite_55, trivial⟩
set_option maxHeartbeats 4000000 in
set_option maxRecDepth 100000 in
theorem c_B_rewrite (l : Launch) (hst : l.stackTraces = false) : ex_C ev_i l y_B_rewrite ws_B_rewrite rm_B_rewrite evLY evCl pre_B_rewrite post_B_rewrite px_B_rewrite := by
  refine ex_meth0 hst rfl (by decide) rfl ev_rop_i ?_ (by decide) I_B_rewrite (ok_B_rewrite l) 60 ?_
  · rintro _ σ τ ⟨n, rfl, hp⟩
    exact Nat.le_of_ble_eq_true rfl
  · rintro _ σ τ ⟨n, rfl, e10, n96, h3, hvb⟩
    refine ⟨rfl, ?_⟩
    rintro r σ1 τ ⟨rfl, rfl, rfl⟩
    by_cases h0 : (0 : Int32) < σ 8 10
    · refine br_nt (by rw [decide_eq_true h0]; decide) ?_
      refine ⟨⟨n, rfl, e10, n96, h3, hvb⟩, ?_⟩
      rintro r σ2 τ ⟨hr, hrv, hs, hf, rfl⟩
      by_cases h2 : σ2 18 2 ≤ 256
      · rw [decide_eq_true h2] at hr
        subst hr
        refine br_nt (by decide) ?_
        refine ⟨rfl, ?_⟩
        rintro r σ3 τ ⟨rfl, rfl, rfl⟩
        exact ⟨h0, rfl, h2, hrv, hs, hf, rfl⟩
      · rw [decide_eq_false h2] at hr
        subst hr
        refine br_nf rfl ?_
        exact ⟨Or.inr ⟨rfl, h0, h2, hrv, hs, hf⟩, rfl⟩
    · refine br_nf (by rw [decide_eq_false h0]; rfl) ?_
      exact ⟨Or.inl ⟨rfl, h0, rfl⟩, rfl⟩
def y_B_code : MethodName := ⟨RX6, "code", "(IZ)I"⟩
def ws_B_code : List Cond := .code y_B_code prog_1_method_9_code 3 (some .int) :: evW
theorem d_B_code_0 : decode prog_1_method_9_code 0 = .ok (.iload_n 1, 1) := by decide +kernel
theorem d_B_code_1 : decode prog_1_method_9_code 1 = .ok (.ifCond .lt 10, 3) := by decide +kernel
theorem d_B_code_4 : decode prog_1_method_9_code 4 = .ok (.iload_n 1, 1) := by decide +kernel
theorem d_B_code_5 : decode prog_1_method_9_code 5 = .ok (.sipush 256, 3) := by decide +kernel
theorem d_B_code_8 : decode prog_1_method_9_code 8 = .ok (.if_icmp .lt 13, 3) := by decide +kernel
theorem d_B_code_11 : decode prog_1_method_9_code 11 = .ok (.new 48, 3) := by decide +kernel
theorem d_B_code_14 : decode prog_1_method_9_code 14 = .ok (.dup, 1) := by decide +kernel
theorem d_B_code_15 : decode prog_1_method_9_code 15 = .ok (.ldc 129, 2) := by decide +kernel
theorem d_B_code_17 : decode prog_1_method_9_code 17 = .ok (.invokespecial 52, 3) := by decide +kernel
theorem d_B_code_20 : decode prog_1_method_9_code 20 = .ok (.athrow, 1) := by decide +kernel
theorem d_B_code_21 : decode prog_1_method_9_code 21 = .ok (.iload_n 2, 1) := by decide +kernel
theorem d_B_code_22 : decode prog_1_method_9_code 22 = .ok (.ifCond .eq 23, 3) := by decide +kernel
theorem d_B_code_25 : decode prog_1_method_9_code 25 = .ok (.aload_n 0, 1) := by decide +kernel
theorem d_B_code_26 : decode prog_1_method_9_code 26 = .ok (.getfield 37, 3) := by decide +kernel
theorem d_B_code_29 : decode prog_1_method_9_code 29 = .ok (.invokevirtual 131, 3) := by decide +kernel
theorem d_B_code_32 : decode prog_1_method_9_code 32 = .ok (.ifCond .ne 13, 3) := by decide +kernel
theorem d_B_code_35 : decode prog_1_method_9_code 35 = .ok (.new 71, 3) := by decide +kernel
theorem d_B_code_38 : decode prog_1_method_9_code 38 = .ok (.dup, 1) := by decide +kernel
theorem d_B_code_39 : decode prog_1_method_9_code 39 = .ok (.ldc 132, 2) := by decide +kernel
theorem d_B_code_41 : decode prog_1_method_9_code 41 = .ok (.invokespecial 75, 3) := by decide +kernel
theorem d_B_code_44 : decode prog_1_method_9_code 44 = .ok (.athrow, 1) := by decide +kernel
theorem d_B_code_45 : decode prog_1_method_9_code 45 = .ok (.iload_n 2, 1) := by decide +kernel
theorem d_B_code_46 : decode prog_1_method_9_code 46 = .ok (.ifCond .eq 17, 3) := by decide +kernel
theorem d_B_code_49 : decode prog_1_method_9_code 49 = .ok (.aload_n 0, 1) := by decide +kernel
theorem d_B_code_50 : decode prog_1_method_9_code 50 = .ok (.getfield 37, 3) := by decide +kernel
theorem d_B_code_53 : decode prog_1_method_9_code 53 = .ok (.invokevirtual 134, 3) := by decide +kernel
theorem d_B_code_56 : decode prog_1_method_9_code 56 = .ok (.iload_n 1, 1) := by decide +kernel
theorem d_B_code_57 : decode prog_1_method_9_code 57 = .ok (.invokevirtual 138, 3) := by decide +kernel
theorem d_B_code_60 : decode prog_1_method_9_code 60 = .ok (.goto 11, 3) := by decide +kernel
theorem d_B_code_63 : decode prog_1_method_9_code 63 = .ok (.aload_n 0, 1) := by decide +kernel
theorem d_B_code_64 : decode prog_1_method_9_code 64 = .ok (.getfield 10, 3) := by decide +kernel
theorem d_B_code_67 : decode prog_1_method_9_code 67 = .ok (.iload_n 1, 1) := by decide +kernel
theorem d_B_code_68 : decode prog_1_method_9_code 68 = .ok (.invokevirtual 138, 3) := by decide +kernel
theorem d_B_code_71 : decode prog_1_method_9_code 71 = .ok (.ireturn, 1) := by decide +kernel
def I_B_code (P : Int32 → ev_M → ev_L → Prop) (PX : Nat → ev_M → ev_L → Prop) : List (Nat × ev_T) := [(0, tt_il 1 1),
  (1, tt_iflt 11 4),
  (4, tt_il 1 5),
  (5, tt_k 256 8),
  (8, tt_iclt 21 11),
  (11, tt_th 0 PX),
  (21, tt_il 2 22),
  (22, tt_ifeq 45 25),
  (25, tt_al 0 26),
  (26, tt_gf evLY 6 4 29),
  (29, tt_cV evLY 4 0 ev_b pre_R_exists post_R_exists 32),
  (32, tt_ifne 45 35),
  (35, tt_th 2 PX),
  (45, tt_il 2 46),
  (46, tt_ifeq 63 49),
  (49, tt_al 0 50),
  (50, tt_gf evLY 6 4 53),
  (53, tt_cV evLY 4 0 ev_r pre_R_result post_R_result 56),
  (56, tt_il 1 57),
  (57, tt_cV evLY 3 1 ev_i pre_P_at post_P_at 60),
  (60, tt_go 71),
  (63, tt_al 0 64),
  (64, tt_gf evLY 6 0 67),
  (67, tt_il 1 68),
  (68, tt_cV evLY 3 1 ev_i pre_P_at post_P_at 71),
  (71, tt_ri P)]
abbrev rm_B_code : Room := { frames := 6, cells := 1, slots := 6, locals := 192 }
set_option maxRecDepth 20000 in
theorem ok_B_code (l : Launch) (J : ev_K) (P : Int32 → ev_M → ev_L → Prop) (PX : Nat → ev_M → ev_L → Prop) (X : ev_X l rm_B_code evLY evCl ws_B_code prog_1_method_9_code 3 y_B_code.cls J) (Z : ev_Z J prog_1_method_9_code .ireturn ev_i P) (T : ex_Z J prog_1_method_9_code PX) : ev_oks J (I_B_code P PX) :=
  ⟨qq_iln X 1 rfl d_B_code_0,
  qq_iflt X 11 (by decide) d_B_code_1,
  qq_iln X 1 rfl d_B_code_4,
  qq_sp X 256 (by decide) d_B_code_5,
  qq_iclt X 21 (by decide) d_B_code_8,
  qq_th T 0 (by decide) (List.mem_of_getElem? (i := 9) rfl) d_B_code_11 d_B_code_14 d_B_code_15 d_B_code_17 d_B_code_20,
  qq_iln X 2 rfl d_B_code_21,
  qq_ifeq X 45 (by decide) d_B_code_22,
  qq_aln X 0 rfl d_B_code_25,
  qq_gf X 6 4 rfl (fun w h => List.mem_cons_of_mem _ (inE_B w h)) (by decide) (List.mem_cons_of_mem _ mw_197) d_B_code_26,
  qq_cV X 4 rfl (c_R_exists l) (fun hts => cwV 0 hts (evGV (mw_589) (mw_590) (mw_591) (mw_6) (mw_592)) rfl rfl rfl (by decide +kernel) ⟨Nat.le_of_ble_eq_true rfl, Nat.le_of_ble_eq_true rfl⟩) d_B_code_29,
  qq_ifne X 45 (by decide) d_B_code_32,
  qq_th T 2 (by decide) (List.mem_of_getElem? (i := 10) rfl) d_B_code_35 d_B_code_38 d_B_code_39 d_B_code_41 d_B_code_44,
  qq_iln X 2 rfl d_B_code_45,
  qq_ifeq X 63 (by decide) d_B_code_46,
  qq_aln X 0 rfl d_B_code_49,
  qq_gf X 6 4 rfl (fun w h => List.mem_cons_of_mem _ (inE_B w h)) (by decide) (List.mem_cons_of_mem _ mw_197) d_B_code_50,
  qq_cV X 4 rfl (c_R_result l) (fun hts => cwV 0 hts (evGV (mw_594) (mw_595) (mw_596) (mw_6) (mw_597)) rfl rfl rfl (by decide +kernel) ⟨Nat.le_of_ble_eq_true rfl, Nat.le_of_ble_eq_true rfl⟩) d_B_code_53,
  qq_iln X 1 rfl d_B_code_56,
  qq_cV X 3 rfl (c_P_at l) (fun hts => cwV 1 hts (evGV (mw_598) (mw_423) (mw_424) (mw_2) (mw_425)) rfl rfl rfl (by decide +kernel) ⟨Nat.le_of_ble_eq_true rfl, Nat.le_of_ble_eq_true rfl⟩) d_B_code_57,
  qq_go X 71 (by decide) d_B_code_60,
  qq_aln X 0 rfl d_B_code_63,
  qq_gf X 6 0 rfl (fun w h => List.mem_cons_of_mem _ (inE_B w h)) (by decide) (List.mem_cons_of_mem _ mw_193) d_B_code_64,
  qq_iln X 1 rfl d_B_code_67,
  qq_cV X 3 rfl (c_P_at l) (fun hts => cwV 1 hts (evGV (mw_598) (mw_423) (mw_424) (mw_2) (mw_425)) rfl rfl rfl (by decide +kernel) ⟨Nat.le_of_ble_eq_true rfl, Nat.le_of_ble_eq_true rfl⟩) d_B_code_68,
  qq_ri Z d_B_code_71, trivial⟩
set_option maxHeartbeats 4000000 in
set_option maxRecDepth 100000 in
theorem c_B_code (l : Launch) (hst : l.stackTraces = false) : ex_C ev_i l y_B_code ws_B_code rm_B_code evLY evCl pre_B_code post_B_code px_B_code := by
  refine ex_meth0 hst rfl (by decide) rfl ev_rop_i ?_ (by decide) I_B_code (ok_B_code l) 60 ?_
  · rintro _ σ τ ⟨a, z, rfl, hp⟩
    exact Nat.le_of_ble_eq_true rfl
  · rintro _ σ τ ⟨a, z, rfl, hs⟩
    have no : (¬ (0 ≤ a ∧ a < 256)) → px_B_code [.ref 0, .int a, .int z] σ τ 0 σ τ := fun h => ⟨Or.inl ⟨rfl, h⟩, rfl, rfl⟩
    refine br_c (fun h => ?_) (fun h => ?_)
    · exact no (fun q => absurd q.1 (Int32.not_le.mpr h))
    · refine br_c (fun h2 => ?_) (fun h2 => ?_)
      · have ha : 0 ≤ a ∧ a < 256 := ⟨i_ge0 h, h2⟩
        by_cases hz : z = 0
        · refine br_t hz ?_
          refine br_t hz ?_
          refine ⟨⟨1, a, rfl, Or.inl rfl⟩, ?_⟩
          rintro r σ1 τ ⟨rfl, rfl, rfl⟩
          exact ⟨ha, Or.inl ⟨hz, rfl⟩, rfl, rfl⟩
        · refine br_f hz ?_
          refine ⟨⟨rfl, hs⟩, ?_⟩
          rintro r σ1 τ ⟨rfl, rfl, rfl⟩
          by_cases h1 : σ 18 3 = 1
          · refine br_nt (by rw [decide_eq_true h1]; decide) ?_
            refine br_f hz ?_
            refine ⟨rfl, ?_⟩
            rintro r σ1 τ ⟨rfl, rfl, rfl⟩
            refine ⟨⟨20, a, rfl, Or.inr rfl⟩, ?_⟩
            rintro r σ1 τ ⟨rfl, rfl, rfl⟩
            exact ⟨ha, Or.inr ⟨hz, h1, rfl⟩, rfl, rfl⟩
          · refine br_nf (by rw [decide_eq_false h1]; rfl) ?_
            exact ⟨Or.inr ⟨rfl, ha, hz, h1⟩, rfl, rfl⟩
      · exact no (fun q => h2 q.2)
def y_B_run : MethodName := ⟨RX6, "run", "(ZI)I"⟩
def ws_B_run : List Cond := .code y_B_run prog_1_method_10_code 3 (some .int) :: evW
theorem d_B_run_0 : decode prog_1_method_10_code 0 = .ok (.iload_n 2, 1) := by decide +kernel
theorem d_B_run_1 : decode prog_1_method_10_code 1 = .ok (.ifCond .lt 10, 3) := by decide +kernel
theorem d_B_run_4 : decode prog_1_method_10_code 4 = .ok (.iload_n 2, 1) := by decide +kernel
theorem d_B_run_5 : decode prog_1_method_10_code 5 = .ok (.sipush 3000, 3) := by decide +kernel
theorem d_B_run_8 : decode prog_1_method_10_code 8 = .ok (.if_icmp .le 13, 3) := by decide +kernel
theorem d_B_run_11 : decode prog_1_method_10_code 11 = .ok (.new 62, 3) := by decide +kernel
theorem d_B_run_14 : decode prog_1_method_10_code 14 = .ok (.dup, 1) := by decide +kernel
theorem d_B_run_15 : decode prog_1_method_10_code 15 = .ok (.ldc 141, 2) := by decide +kernel
theorem d_B_run_17 : decode prog_1_method_10_code 17 = .ok (.invokespecial 66, 3) := by decide +kernel
theorem d_B_run_20 : decode prog_1_method_10_code 20 = .ok (.athrow, 1) := by decide +kernel
theorem d_B_run_21 : decode prog_1_method_10_code 21 = .ok (.iload_n 1, 1) := by decide +kernel
theorem d_B_run_22 : decode prog_1_method_10_code 22 = .ok (.ifCond .eq 23, 3) := by decide +kernel
theorem d_B_run_25 : decode prog_1_method_10_code 25 = .ok (.aload_n 0, 1) := by decide +kernel
theorem d_B_run_26 : decode prog_1_method_10_code 26 = .ok (.getfield 37, 3) := by decide +kernel
theorem d_B_run_29 : decode prog_1_method_10_code 29 = .ok (.invokevirtual 131, 3) := by decide +kernel
theorem d_B_run_32 : decode prog_1_method_10_code 32 = .ok (.ifCond .ne 13, 3) := by decide +kernel
theorem d_B_run_35 : decode prog_1_method_10_code 35 = .ok (.new 71, 3) := by decide +kernel
theorem d_B_run_38 : decode prog_1_method_10_code 38 = .ok (.dup, 1) := by decide +kernel
theorem d_B_run_39 : decode prog_1_method_10_code 39 = .ok (.ldc 132, 2) := by decide +kernel
theorem d_B_run_41 : decode prog_1_method_10_code 41 = .ok (.invokespecial 75, 3) := by decide +kernel
theorem d_B_run_44 : decode prog_1_method_10_code 44 = .ok (.athrow, 1) := by decide +kernel
theorem d_B_run_45 : decode prog_1_method_10_code 45 = .ok (.aload_n 0, 1) := by decide +kernel
theorem d_B_run_46 : decode prog_1_method_10_code 46 = .ok (.getfield 44, 3) := by decide +kernel
theorem d_B_run_49 : decode prog_1_method_10_code 49 = .ok (.aload_n 0, 1) := by decide +kernel
theorem d_B_run_50 : decode prog_1_method_10_code 50 = .ok (.getfield 23, 3) := by decide +kernel
theorem d_B_run_53 : decode prog_1_method_10_code 53 = .ok (.invokevirtual 143, 3) := by decide +kernel
theorem d_B_run_56 : decode prog_1_method_10_code 56 = .ok (.iload_n 1, 1) := by decide +kernel
theorem d_B_run_57 : decode prog_1_method_10_code 57 = .ok (.ifCond .eq 19, 3) := by decide +kernel
theorem d_B_run_60 : decode prog_1_method_10_code 60 = .ok (.aload_n 0, 1) := by decide +kernel
theorem d_B_run_61 : decode prog_1_method_10_code 61 = .ok (.getfield 44, 3) := by decide +kernel
theorem d_B_run_64 : decode prog_1_method_10_code 64 = .ok (.aload_n 0, 1) := by decide +kernel
theorem d_B_run_65 : decode prog_1_method_10_code 65 = .ok (.getfield 37, 3) := by decide +kernel
theorem d_B_run_68 : decode prog_1_method_10_code 68 = .ok (.invokevirtual 134, 3) := by decide +kernel
theorem d_B_run_71 : decode prog_1_method_10_code 71 = .ok (.iload_n 2, 1) := by decide +kernel
theorem d_B_run_72 : decode prog_1_method_10_code 72 = .ok (.invokevirtual 147, 3) := by decide +kernel
theorem d_B_run_75 : decode prog_1_method_10_code 75 = .ok (.ireturn, 1) := by decide +kernel
theorem d_B_run_76 : decode prog_1_method_10_code 76 = .ok (.aload_n 0, 1) := by decide +kernel
theorem d_B_run_77 : decode prog_1_method_10_code 77 = .ok (.getfield 44, 3) := by decide +kernel
theorem d_B_run_80 : decode prog_1_method_10_code 80 = .ok (.aload_n 0, 1) := by decide +kernel
theorem d_B_run_81 : decode prog_1_method_10_code 81 = .ok (.getfield 10, 3) := by decide +kernel
theorem d_B_run_84 : decode prog_1_method_10_code 84 = .ok (.iload_n 2, 1) := by decide +kernel
theorem d_B_run_85 : decode prog_1_method_10_code 85 = .ok (.aload_n 0, 1) := by decide +kernel
theorem d_B_run_86 : decode prog_1_method_10_code 86 = .ok (.getfield 30, 3) := by decide +kernel
theorem d_B_run_89 : decode prog_1_method_10_code 89 = .ok (.invokevirtual 151, 3) := by decide +kernel
theorem d_B_run_92 : decode prog_1_method_10_code 92 = .ok (.ireturn, 1) := by decide +kernel
def I_B_run (P : Int32 → ev_M → ev_L → Prop) (PX : Nat → ev_M → ev_L → Prop) : List (Nat × ev_T) := [(0, tt_il 2 1),
  (1, tt_iflt 11 4),
  (4, tt_il 2 5),
  (5, tt_k 3000 8),
  (8, tt_icle 21 11),
  (11, tt_th 1 PX),
  (21, tt_il 1 22),
  (22, tt_ifeq 45 25),
  (25, tt_al 0 26),
  (26, tt_gf evLY 6 4 29),
  (29, tt_cV evLY 4 0 ev_b pre_R_exists post_R_exists 32),
  (32, tt_ifne 45 35),
  (35, tt_th 2 PX),
  (45, tt_al 0 46),
  (46, tt_gf evLY 6 5 49),
  (49, tt_al 0 50),
  (50, tt_gf evLY 6 2 53),
  (53, tt_cV evLY 2 1 ev_n pre_M_start post_M_start 56),
  (56, tt_il 1 57),
  (57, tt_ifeq 76 60),
  (60, tt_al 0 61),
  (61, tt_gf evLY 6 5 64),
  (64, tt_al 0 65),
  (65, tt_gf evLY 6 4 68),
  (68, tt_cV evLY 4 0 ev_r pre_R_result post_R_result 71),
  (71, tt_il 2 72),
  (72, tt_cV evLY 2 2 ev_i pre_M_execute post_M_execute 75),
  (75, tt_ri P),
  (76, tt_al 0 77),
  (77, tt_gf evLY 6 5 80),
  (80, tt_al 0 81),
  (81, tt_gf evLY 6 0 84),
  (84, tt_il 2 85),
  (85, tt_al 0 86),
  (86, tt_gf evLY 6 3 89),
  (89, tt_cV evLY 2 3 ev_i pre_M_executeWatched post_M_executeWatched 92),
  (92, tt_ri P)]
abbrev rm_B_run : Room := { frames := 7, cells := 1, slots := 6, locals := 224 }
set_option maxRecDepth 20000 in
theorem ok_B_run (l : Launch) (J : ev_K) (P : Int32 → ev_M → ev_L → Prop) (PX : Nat → ev_M → ev_L → Prop) (X : ev_X l rm_B_run evLY evCl ws_B_run prog_1_method_10_code 3 y_B_run.cls J) (Z : ev_Z J prog_1_method_10_code .ireturn ev_i P) (T : ex_Z J prog_1_method_10_code PX) : ev_oks J (I_B_run P PX) :=
  ⟨qq_iln X 2 rfl d_B_run_0,
  qq_iflt X 11 (by decide) d_B_run_1,
  qq_iln X 2 rfl d_B_run_4,
  qq_sp X 3000 (by decide) d_B_run_5,
  qq_icle X 21 (by decide) d_B_run_8,
  qq_th T 1 (by decide) (List.mem_of_getElem? (i := 11) rfl) d_B_run_11 d_B_run_14 d_B_run_15 d_B_run_17 d_B_run_20,
  qq_iln X 1 rfl d_B_run_21,
  qq_ifeq X 45 (by decide) d_B_run_22,
  qq_aln X 0 rfl d_B_run_25,
  qq_gf X 6 4 rfl (fun w h => List.mem_cons_of_mem _ (inE_B w h)) (by decide) (List.mem_cons_of_mem _ mw_197) d_B_run_26,
  qq_cV X 4 rfl (c_R_exists l) (fun hts => cwV 0 hts (evGV (mw_589) (mw_590) (mw_591) (mw_6) (mw_592)) rfl rfl rfl (by decide +kernel) ⟨Nat.le_of_ble_eq_true rfl, Nat.le_of_ble_eq_true rfl⟩) d_B_run_29,
  qq_ifne X 45 (by decide) d_B_run_32,
  qq_th T 2 (by decide) (List.mem_of_getElem? (i := 10) rfl) d_B_run_35 d_B_run_38 d_B_run_39 d_B_run_41 d_B_run_44,
  qq_aln X 0 rfl d_B_run_45,
  qq_gf X 6 5 rfl (fun w h => List.mem_cons_of_mem _ (inE_B w h)) (by decide) (List.mem_cons_of_mem _ mw_198) d_B_run_46,
  qq_aln X 0 rfl d_B_run_49,
  qq_gf X 6 2 rfl (fun w h => List.mem_cons_of_mem _ (inE_B w h)) (by decide) (List.mem_cons_of_mem _ mw_195) d_B_run_50,
  qq_cV X 2 rfl (c_M_start l) (fun hts => cwV 1 hts (evGV (mw_607) (mw_608) (mw_609) (mw_7) (mw_610)) rfl rfl rfl (by decide +kernel) ⟨Nat.le_of_ble_eq_true rfl, Nat.le_of_ble_eq_true rfl⟩) d_B_run_53,
  qq_iln X 1 rfl d_B_run_56,
  qq_ifeq X 76 (by decide) d_B_run_57,
  qq_aln X 0 rfl d_B_run_60,
  qq_gf X 6 5 rfl (fun w h => List.mem_cons_of_mem _ (inE_B w h)) (by decide) (List.mem_cons_of_mem _ mw_198) d_B_run_61,
  qq_aln X 0 rfl d_B_run_64,
  qq_gf X 6 4 rfl (fun w h => List.mem_cons_of_mem _ (inE_B w h)) (by decide) (List.mem_cons_of_mem _ mw_197) d_B_run_65,
  qq_cV X 4 rfl (c_R_result l) (fun hts => cwV 0 hts (evGV (mw_594) (mw_595) (mw_596) (mw_6) (mw_597)) rfl rfl rfl (by decide +kernel) ⟨Nat.le_of_ble_eq_true rfl, Nat.le_of_ble_eq_true rfl⟩) d_B_run_68,
  qq_iln X 2 rfl d_B_run_71,
  qq_cV X 2 rfl (c_M_execute l) (fun hts => cwV 2 hts (evGV (mw_616) (mw_617) (mw_618) (mw_7) (mw_619)) rfl rfl rfl (by decide +kernel) ⟨Nat.le_of_ble_eq_true rfl, Nat.le_of_ble_eq_true rfl⟩) d_B_run_72,
  qq_ri Z d_B_run_75,
  qq_aln X 0 rfl d_B_run_76,
  qq_gf X 6 5 rfl (fun w h => List.mem_cons_of_mem _ (inE_B w h)) (by decide) (List.mem_cons_of_mem _ mw_198) d_B_run_77,
  qq_aln X 0 rfl d_B_run_80,
  qq_gf X 6 0 rfl (fun w h => List.mem_cons_of_mem _ (inE_B w h)) (by decide) (List.mem_cons_of_mem _ mw_193) d_B_run_81,
  qq_iln X 2 rfl d_B_run_84,
  qq_aln X 0 rfl d_B_run_85,
  qq_gf X 6 3 rfl (fun w h => List.mem_cons_of_mem _ (inE_B w h)) (by decide) (List.mem_cons_of_mem _ mw_196) d_B_run_86,
  qq_cV X 2 rfl (c_M_executeWatched l) (fun hts => cwV 3 hts (evGV (mw_679) (mw_680) (mw_681) (mw_7) (mw_682)) rfl rfl rfl (by decide +kernel) ⟨Nat.le_of_ble_eq_true rfl, Nat.le_of_ble_eq_true rfl⟩) d_B_run_89,
  qq_ri Z d_B_run_92, trivial⟩
set_option maxHeartbeats 4000000 in
set_option maxRecDepth 100000 in
theorem c_B_run (l : Launch) (hst : l.stackTraces = false) : ex_C ev_i l y_B_run ws_B_run rm_B_run evLY evCl pre_B_run post_B_run px_B_run := by
  refine ex_meth0 hst rfl (by decide) rfl ev_rop_i ?_ (by decide) I_B_run (ok_B_run l) 60 ?_
  · rintro _ σ τ ⟨z, m, rfl, hp⟩
    exact Nat.le_of_ble_eq_true rfl
  · rintro _ σ τ ⟨z, m, rfl, hs, hby, htr, hc, hrw⟩
    have no : (¬ (0 ≤ m ∧ m ≤ 3000)) → px_B_run [.ref 0, .int z, .int m] σ τ 1 σ τ := fun h => ⟨Or.inl ⟨rfl, h⟩, rfl, rfl⟩
    refine br_c (fun h => ?_) (fun h => ?_)
    · exact no (fun q => absurd q.1 (Int32.not_le.mpr h))
    · refine br_c (fun h2 => ?_) (fun h2 => ?_)
      · have hm : 0 ≤ m ∧ m ≤ 3000 := ⟨i_ge0 h, h2⟩
        have h3000 : (3000 : Int32).toInt = 3000 := rfl
        have hm2 := Int32.le_iff_toInt_le.mp h2
        obtain ⟨j, hj, rfl⟩ := nI_of h
        rw [nI_toInt hj] at hm2
        by_cases hz : z = 0
        · refine br_t hz ?_
          refine ⟨rfl, ?_⟩
          rintro _ σ1 τ1 ⟨hb, hf⟩
          refine br_t hz ?_
          have e2 : σ1 2 = σ 2 := hf.1 2 (by omega)
          have e3 : σ1 3 = σ 3 := hf.1 3 (by omega)
          have e8 : σ1 8 = σ 8 := hf.1 8 (by omega)
          have e14 : σ1 14 = σ 14 := hf.1 14 (by omega)
          have e15 : σ1 15 = σ 15 := hf.1 15 (by omega)
          refine ⟨⟨j, rfl, by omega, by rw [e2]; exact hby, by rw [e3]; exact htr, by rw [hb]; exact ms_begin_R _ _, by rw [e8]; exact hc⟩, ?_⟩
          rintro r σ2 τ2 ⟨hr, hf2⟩
          rw [e2, e3, e8, e14, e15, hb] at hr
          exact ⟨hm, Or.inl ⟨hz, hr⟩, frC_tr hf hf2⟩
        · refine br_f hz ?_
          refine ⟨⟨rfl, hs⟩, ?_⟩
          rintro r σ1 τ ⟨rfl, rfl, rfl⟩
          by_cases h1 : σ 18 3 = 1
          · refine br_nt (by rw [decide_eq_true h1]; decide) ?_
            refine ⟨rfl, ?_⟩
            rintro _ σ1 τ1 ⟨hb, hf⟩
            refine br_f hz ?_
            refine ⟨rfl, ?_⟩
            rintro r σ3 τ3 ⟨rfl, rfl, rfl⟩
            have e21 : σ1 21 = σ 21 := hf.1 21 (by omega)
            have e22 : σ1 22 = σ 22 := hf.1 22 (by omega)
            obtain ⟨y1, y2⟩ := hrw h1
            refine ⟨⟨20, j, rfl, Or.inr rfl, by omega, by show byF (σ1 21); rw [e21]; exact y1, by show trF (sp_trap (σ1 22)); rw [e22]; exact y2, by rw [hb]; exact ms_begin_R _ _⟩, ?_⟩
            rintro r σ2 τ2 ⟨hr, hf2⟩
            have hr' : (r, mvC σ2 τ2) = ms_run (σ1 21) (sp_trap (σ1 22)) (fun x => x) (nI j).toNatClampNeg (mvC σ1 τ1) := hr
            rw [e21, e22, hb] at hr'
            exact ⟨hm, Or.inr ⟨hz, h1, hr'⟩, frC_tr hf hf2⟩
          · refine br_nf (by rw [decide_eq_false h1]; rfl) ?_
            exact ⟨Or.inr ⟨rfl, hm, hz, h1⟩, rfl, rfl⟩
      · exact no (fun q => h2 q.2)
