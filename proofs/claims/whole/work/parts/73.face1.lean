/-! the face's walks -/
def y_B_forgetFindings : MethodName := ⟨RX6, "forgetFindings", "()V"⟩
def ws_B_forgetFindings : List Cond := .code y_B_forgetFindings prog_1_method_16_code 1 none :: evW
theorem d_B_forgetFindings_0 : decode prog_1_method_16_code 0 = .ok (.aload_n 0, 1) := by decide +kernel
theorem d_B_forgetFindings_1 : decode prog_1_method_16_code 1 = .ok (.getfield 30, 3) := by decide +kernel
theorem d_B_forgetFindings_4 : decode prog_1_method_16_code 4 = .ok (.invokevirtual 186, 3) := by decide +kernel
theorem d_B_forgetFindings_7 : decode prog_1_method_16_code 7 = .ok (.aload_n 0, 1) := by decide +kernel
theorem d_B_forgetFindings_8 : decode prog_1_method_16_code 8 = .ok (.getfield 37, 3) := by decide +kernel
theorem d_B_forgetFindings_11 : decode prog_1_method_16_code 11 = .ok (.invokevirtual 85, 3) := by decide +kernel
theorem d_B_forgetFindings_14 : decode prog_1_method_16_code 14 = .ok (.return_, 1) := by decide +kernel
def I_B_forgetFindings (P : Unit → ev_M → ev_L → Prop) : List (Nat × ev_T) := [(0, tt_al 0 1),
  (1, tt_gf evLY 6 3 4),
  (4, tt_cV evLY 0 0 ev_n pre_A_forget post_A_forget 7),
  (7, tt_al 0 8),
  (8, tt_gf evLY 6 4 11),
  (11, tt_cV evLY 4 0 ev_n pre_R_forget post_R_forget 14),
  (14, tt_rv P)]
abbrev rm_B_forgetFindings : Room := { frames := 1, cells := 0, slots := 0, locals := 32 }
set_option maxRecDepth 20000 in
theorem ok_B_forgetFindings (l : Launch) (J : ev_K) (P : Unit → ev_M → ev_L → Prop) (X : ev_X l rm_B_forgetFindings evLY evCl ws_B_forgetFindings prog_1_method_16_code 1 y_B_forgetFindings.cls J) (Z : ev_Z J prog_1_method_16_code .return_ ev_n P) : ev_oks J (I_B_forgetFindings P) :=
  ⟨qq_aln X 0 rfl d_B_forgetFindings_0,
  qq_gf X 6 3 rfl (fun w h => List.mem_cons_of_mem _ (inE_B w h)) (by decide) (List.mem_cons_of_mem _ mw_196) d_B_forgetFindings_1,
  qq_cV X 0 rfl (c_A_forget l) (fun hts => cwV 0 hts (evGV (mw_317) (mw_318) (mw_319) (mw_4) (mw_320)) rfl rfl rfl (by decide +kernel) ⟨Nat.le_of_ble_eq_true rfl, Nat.le_of_ble_eq_true rfl⟩) d_B_forgetFindings_4,
  qq_aln X 0 rfl d_B_forgetFindings_7,
  qq_gf X 6 4 rfl (fun w h => List.mem_cons_of_mem _ (inE_B w h)) (by decide) (List.mem_cons_of_mem _ mw_197) d_B_forgetFindings_8,
  qq_cV X 4 rfl (c_R_forget l) (fun hts => cwV 0 hts (evGV (mw_321) (mw_322) (mw_323) (mw_6) (mw_324)) rfl rfl rfl (by decide +kernel) ⟨Nat.le_of_ble_eq_true rfl, Nat.le_of_ble_eq_true rfl⟩) d_B_forgetFindings_11,
  qq_rv Z d_B_forgetFindings_14, trivial⟩
set_option maxHeartbeats 4000000 in
set_option maxRecDepth 100000 in
theorem c_B_forgetFindings (l : Launch) : ev_C ev_n l y_B_forgetFindings ws_B_forgetFindings rm_B_forgetFindings evLY evCl pre_B_forgetFindings post_B_forgetFindings := by
  refine ev_meth0 (by decide) rfl ev_rop_v ?_ I_B_forgetFindings (ok_B_forgetFindings l) 30 ?_
  · rintro _ σ τ rfl
    exact Nat.le_of_ble_eq_true rfl
  · rintro _ σ τ rfl
    refine ⟨rfl, ?_⟩
    rintro _ σ τ ⟨rfl, rfl⟩
    refine ⟨rfl, ?_⟩
    rintro _ σ τ ⟨rfl, rfl⟩
    exact ⟨rfl, rfl⟩
def y_B_blockAt : MethodName := ⟨RX6, "blockAt", "(I)I"⟩
def ws_B_blockAt : List Cond := .code y_B_blockAt prog_1_method_7_code 2 (some .int) :: evW
theorem d_B_blockAt_0 : decode prog_1_method_7_code 0 = .ok (.aload_n 0, 1) := by decide +kernel
theorem d_B_blockAt_1 : decode prog_1_method_7_code 1 = .ok (.getfield 30, 3) := by decide +kernel
theorem d_B_blockAt_4 : decode prog_1_method_7_code 4 = .ok (.iload_n 1, 1) := by decide +kernel
theorem d_B_blockAt_5 : decode prog_1_method_7_code 5 = .ok (.invokevirtual 112, 3) := by decide +kernel
theorem d_B_blockAt_8 : decode prog_1_method_7_code 8 = .ok (.ireturn, 1) := by decide +kernel
def I_B_blockAt (P : Int32 → ev_M → ev_L → Prop) : List (Nat × ev_T) := [(0, tt_al 0 1),
  (1, tt_gf evLY 6 3 4),
  (4, tt_il 1 5),
  (5, tt_cV evLY 0 1 ev_i pre_A_numberAt post_A_numberAt 8),
  (8, tt_ri P)]
abbrev rm_B_blockAt : Room := { frames := 2, cells := 0, slots := 0, locals := 64 }
set_option maxRecDepth 20000 in
theorem ok_B_blockAt (l : Launch) (J : ev_K) (P : Int32 → ev_M → ev_L → Prop) (X : ev_X l rm_B_blockAt evLY evCl ws_B_blockAt prog_1_method_7_code 2 y_B_blockAt.cls J) (Z : ev_Z J prog_1_method_7_code .ireturn ev_i P) : ev_oks J (I_B_blockAt P) :=
  ⟨qq_aln X 0 rfl d_B_blockAt_0,
  qq_gf X 6 3 rfl (fun w h => List.mem_cons_of_mem _ (inE_B w h)) (by decide) (List.mem_cons_of_mem _ mw_196) d_B_blockAt_1,
  qq_iln X 1 rfl d_B_blockAt_4,
  qq_cV X 0 rfl (c_A_numberAt l) (fun hts => cwV 1 hts (evGV (mw_216) (mw_217) (mw_218) (mw_4) (mw_219)) rfl rfl rfl (by decide +kernel) ⟨Nat.le_of_ble_eq_true rfl, Nat.le_of_ble_eq_true rfl⟩) d_B_blockAt_5,
  qq_ri Z d_B_blockAt_8, trivial⟩
set_option maxHeartbeats 4000000 in
set_option maxRecDepth 100000 in
theorem c_B_blockAt (l : Launch) : ev_C ev_i l y_B_blockAt ws_B_blockAt rm_B_blockAt evLY evCl pre_B_blockAt post_B_blockAt := by
  refine ev_meth0 (by decide) rfl ev_rop_i ?_ I_B_blockAt (ok_B_blockAt l) 30 ?_
  · rintro _ σ τ ⟨a, rfl⟩
    exact Nat.le_of_ble_eq_true rfl
  · rintro _ σ τ ⟨a, rfl⟩
    refine ⟨⟨a, rfl⟩, ?_⟩
    rintro _ σ τ ⟨rfl, rfl, rfl⟩
    exact ⟨rfl, rfl, rfl⟩
def y_B_steps : MethodName := ⟨RX6, "steps", "()I"⟩
def ws_B_steps : List Cond := .code y_B_steps prog_1_method_11_code 1 (some .int) :: evW
theorem d_B_steps_0 : decode prog_1_method_11_code 0 = .ok (.aload_n 0, 1) := by decide +kernel
theorem d_B_steps_1 : decode prog_1_method_11_code 1 = .ok (.getfield 44, 3) := by decide +kernel
theorem d_B_steps_4 : decode prog_1_method_11_code 4 = .ok (.invokevirtual 155, 3) := by decide +kernel
theorem d_B_steps_7 : decode prog_1_method_11_code 7 = .ok (.ireturn, 1) := by decide +kernel
def I_B_steps (P : Int32 → ev_M → ev_L → Prop) : List (Nat × ev_T) := [(0, tt_al 0 1),
  (1, tt_gf evLY 6 5 4),
  (4, tt_cV evLY 2 0 ev_i pre_M_done post_M_done 7),
  (7, tt_ri P)]
abbrev rm_B_steps : Room := { frames := 1, cells := 0, slots := 0, locals := 32 }
set_option maxRecDepth 20000 in
theorem ok_B_steps (l : Launch) (J : ev_K) (P : Int32 → ev_M → ev_L → Prop) (X : ev_X l rm_B_steps evLY evCl ws_B_steps prog_1_method_11_code 1 y_B_steps.cls J) (Z : ev_Z J prog_1_method_11_code .ireturn ev_i P) : ev_oks J (I_B_steps P) :=
  ⟨qq_aln X 0 rfl d_B_steps_0,
  qq_gf X 6 5 rfl (fun w h => List.mem_cons_of_mem _ (inE_B w h)) (by decide) (List.mem_cons_of_mem _ mw_198) d_B_steps_1,
  qq_cV X 2 rfl (c_M_done l) (fun hts => cwV 0 hts (evGV (mw_228) (mw_229) (mw_230) (mw_7) (mw_231)) rfl rfl rfl (by decide +kernel) ⟨Nat.le_of_ble_eq_true rfl, Nat.le_of_ble_eq_true rfl⟩) d_B_steps_4,
  qq_ri Z d_B_steps_7, trivial⟩
set_option maxHeartbeats 4000000 in
set_option maxRecDepth 100000 in
theorem c_B_steps (l : Launch) : ev_C ev_i l y_B_steps ws_B_steps rm_B_steps evLY evCl pre_B_steps post_B_steps := by
  refine ev_meth0 (by decide) rfl ev_rop_i ?_ I_B_steps (ok_B_steps l) 30 ?_
  · rintro _ σ τ rfl
    exact Nat.le_of_ble_eq_true rfl
  · rintro _ σ τ rfl
    refine ⟨rfl, ?_⟩
    rintro _ σ τ ⟨rfl, rfl, rfl⟩
    exact ⟨rfl, rfl, rfl⟩
theorem i_ge0 {a : Int32} (h : ¬ a < 0) : 0 ≤ a := Int32.not_lt.mp h
def y_B_poke : MethodName := ⟨RX6, "poke", "(II)V"⟩
def ws_B_poke : List Cond := .code y_B_poke prog_1_method_2_code 3 none :: evW
theorem d_B_poke_0 : decode prog_1_method_2_code 0 = .ok (.iload_n 1, 1) := by decide +kernel
theorem d_B_poke_1 : decode prog_1_method_2_code 1 = .ok (.ifCond .lt 9, 3) := by decide +kernel
theorem d_B_poke_4 : decode prog_1_method_2_code 4 = .ok (.iload_n 1, 1) := by decide +kernel
theorem d_B_poke_5 : decode prog_1_method_2_code 5 = .ok (.bipush 96, 2) := by decide +kernel
theorem d_B_poke_7 : decode prog_1_method_2_code 7 = .ok (.if_icmp .lt 13, 3) := by decide +kernel
theorem d_B_poke_10 : decode prog_1_method_2_code 10 = .ok (.new 48, 3) := by decide +kernel
theorem d_B_poke_13 : decode prog_1_method_2_code 13 = .ok (.dup, 1) := by decide +kernel
theorem d_B_poke_14 : decode prog_1_method_2_code 14 = .ok (.ldc 50, 2) := by decide +kernel
theorem d_B_poke_16 : decode prog_1_method_2_code 16 = .ok (.invokespecial 52, 3) := by decide +kernel
theorem d_B_poke_19 : decode prog_1_method_2_code 19 = .ok (.athrow, 1) := by decide +kernel
theorem d_B_poke_20 : decode prog_1_method_2_code 20 = .ok (.aload_n 0, 1) := by decide +kernel
theorem d_B_poke_21 : decode prog_1_method_2_code 21 = .ok (.getfield 10, 3) := by decide +kernel
theorem d_B_poke_24 : decode prog_1_method_2_code 24 = .ok (.iload_n 1, 1) := by decide +kernel
theorem d_B_poke_25 : decode prog_1_method_2_code 25 = .ok (.iload_n 2, 1) := by decide +kernel
theorem d_B_poke_26 : decode prog_1_method_2_code 26 = .ok (.invokevirtual 55, 3) := by decide +kernel
theorem d_B_poke_29 : decode prog_1_method_2_code 29 = .ok (.aload_n 0, 1) := by decide +kernel
theorem d_B_poke_30 : decode prog_1_method_2_code 30 = .ok (.invokevirtual 59, 3) := by decide +kernel
theorem d_B_poke_33 : decode prog_1_method_2_code 33 = .ok (.return_, 1) := by decide +kernel
def I_B_poke (P : Unit → ev_M → ev_L → Prop) (PX : Nat → ev_M → ev_L → Prop) : List (Nat × ev_T) := [(0, tt_il 1 1),
  (1, tt_iflt 10 4),
  (4, tt_il 1 5),
  (5, tt_k 96 7),
  (7, tt_iclt 20 10),
  (10, tt_th 0 PX),
  (20, tt_al 0 21),
  (21, tt_gf evLY 6 0 24),
  (24, tt_il 1 25),
  (25, tt_il 2 26),
  (26, tt_cV evLY 3 2 ev_n pre_P_put post_P_put 29),
  (29, tt_al 0 30),
  (30, tt_cV evLY 6 0 ev_n pre_B_forgetFindings post_B_forgetFindings 33),
  (33, tt_rv P)]
abbrev rm_B_poke : Room := { frames := 6, cells := 1, slots := 6, locals := 192 }
set_option maxRecDepth 20000 in
theorem ok_B_poke (l : Launch) (J : ev_K) (P : Unit → ev_M → ev_L → Prop) (PX : Nat → ev_M → ev_L → Prop) (X : ev_X l rm_B_poke evLY evCl ws_B_poke prog_1_method_2_code 3 y_B_poke.cls J) (Z : ev_Z J prog_1_method_2_code .return_ ev_n P) (T : ex_Z J prog_1_method_2_code PX) : ev_oks J (I_B_poke P PX) :=
  ⟨qq_iln X 1 rfl d_B_poke_0,
  qq_iflt X 10 (by decide) d_B_poke_1,
  qq_iln X 1 rfl d_B_poke_4,
  qq_bp X 96 (by decide) d_B_poke_5,
  qq_iclt X 20 (by decide) d_B_poke_7,
  qq_th T 0 (by decide) (List.mem_of_getElem? (i := 0) rfl) d_B_poke_10 d_B_poke_13 d_B_poke_14 d_B_poke_16 d_B_poke_19,
  qq_aln X 0 rfl d_B_poke_20,
  qq_gf X 6 0 rfl (fun w h => List.mem_cons_of_mem _ (inE_B w h)) (by decide) (List.mem_cons_of_mem _ mw_193) d_B_poke_21,
  qq_iln X 1 rfl d_B_poke_24,
  qq_iln X 2 rfl d_B_poke_25,
  qq_cV X 3 rfl (c_P_put l) (fun hts => cwV 2 hts (evGV (mw_309) (mw_310) (mw_311) (mw_2) (mw_312)) rfl rfl rfl (by decide +kernel) ⟨Nat.le_of_ble_eq_true rfl, Nat.le_of_ble_eq_true rfl⟩) d_B_poke_26,
  qq_aln X 0 rfl d_B_poke_29,
  qq_cV X 6 rfl (c_B_forgetFindings l) (fun hts => cwV 0 hts (evGV (mw_313) (mw_315) (mp_1) (mw_1) (mw_316)) rfl rfl rfl (by decide +kernel) ⟨Nat.le_of_ble_eq_true rfl, Nat.le_of_ble_eq_true rfl⟩) d_B_poke_30,
  qq_rv Z d_B_poke_33, trivial⟩
set_option maxHeartbeats 4000000 in
set_option maxRecDepth 100000 in
theorem c_B_poke (l : Launch) (hst : l.stackTraces = false) : ex_C ev_n l y_B_poke ws_B_poke rm_B_poke evLY evCl pre_B_poke post_B_poke px_B_poke := by
  refine ex_meth0 hst rfl (by decide) rfl ev_rop_v ?_ (by decide) I_B_poke (ok_B_poke l) 40 ?_
  · rintro _ σ τ ⟨a, v, rfl⟩
    exact Nat.le_of_ble_eq_true rfl
  · rintro _ σ τ ⟨a, v, rfl⟩
    have no : (¬ (0 ≤ a ∧ a < 96)) → px_B_poke [.ref 0, .int a, .int v] σ τ 0 σ τ := fun h => ⟨rfl, h, rfl, rfl⟩
    refine br_c (fun h => ?_) (fun h => ?_)
    · exact no (fun q => absurd q.1 (Int32.not_le.mpr h))
    · refine br_c (fun h2 => ?_) (fun h2 => ?_)
      · refine ⟨⟨1, a, v, rfl, Or.inl rfl⟩, ?_⟩
        rintro _ σ1 τ ⟨rfl, rfl⟩
        refine ⟨rfl, ?_⟩
        rintro _ σ1 τ ⟨rfl, rfl⟩
        exact ⟨⟨i_ge0 h, h2⟩, rfl, rfl⟩
      · exact no (fun q => h2 q.2)
