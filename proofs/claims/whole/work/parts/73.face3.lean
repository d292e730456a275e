/-! the face's walks, on -/
def y_B_block : MethodName := ⟨RX6, "block", "(II)I"⟩
def ws_B_block : List Cond := .code y_B_block prog_1_method_6_code 3 (some .int) :: evW
theorem d_B_block_0 : decode prog_1_method_6_code 0 = .ok (.iload_n 1, 1) := by decide +kernel
theorem d_B_block_1 : decode prog_1_method_6_code 1 = .ok (.ifCond .lt 14, 3) := by decide +kernel
theorem d_B_block_4 : decode prog_1_method_6_code 4 = .ok (.iload_n 1, 1) := by decide +kernel
theorem d_B_block_5 : decode prog_1_method_6_code 5 = .ok (.aload_n 0, 1) := by decide +kernel
theorem d_B_block_6 : decode prog_1_method_6_code 6 = .ok (.getfield 30, 3) := by decide +kernel
theorem d_B_block_9 : decode prog_1_method_6_code 9 = .ok (.invokevirtual 97, 3) := by decide +kernel
theorem d_B_block_12 : decode prog_1_method_6_code 12 = .ok (.if_icmp .lt 13, 3) := by decide +kernel
theorem d_B_block_15 : decode prog_1_method_6_code 15 = .ok (.new 48, 3) := by decide +kernel
theorem d_B_block_18 : decode prog_1_method_6_code 18 = .ok (.dup, 1) := by decide +kernel
theorem d_B_block_19 : decode prog_1_method_6_code 19 = .ok (.ldc 98, 2) := by decide +kernel
theorem d_B_block_21 : decode prog_1_method_6_code 21 = .ok (.invokespecial 52, 3) := by decide +kernel
theorem d_B_block_24 : decode prog_1_method_6_code 24 = .ok (.athrow, 1) := by decide +kernel
theorem d_B_block_25 : decode prog_1_method_6_code 25 = .ok (.iload_n 2, 1) := by decide +kernel
theorem d_B_block_26 : decode prog_1_method_6_code 26 = .ok (.tableswitch 53 0 2 #[26, 35, 44], 26) := by decide +kernel
theorem d_B_block_52 : decode prog_1_method_6_code 52 = .ok (.aload_n 0, 1) := by decide +kernel
theorem d_B_block_53 : decode prog_1_method_6_code 53 = .ok (.getfield 30, 3) := by decide +kernel
theorem d_B_block_56 : decode prog_1_method_6_code 56 = .ok (.iload_n 1, 1) := by decide +kernel
theorem d_B_block_57 : decode prog_1_method_6_code 57 = .ok (.invokevirtual 100, 3) := by decide +kernel
theorem d_B_block_60 : decode prog_1_method_6_code 60 = .ok (.ireturn, 1) := by decide +kernel
theorem d_B_block_61 : decode prog_1_method_6_code 61 = .ok (.aload_n 0, 1) := by decide +kernel
theorem d_B_block_62 : decode prog_1_method_6_code 62 = .ok (.getfield 30, 3) := by decide +kernel
theorem d_B_block_65 : decode prog_1_method_6_code 65 = .ok (.iload_n 1, 1) := by decide +kernel
theorem d_B_block_66 : decode prog_1_method_6_code 66 = .ok (.invokevirtual 104, 3) := by decide +kernel
theorem d_B_block_69 : decode prog_1_method_6_code 69 = .ok (.ireturn, 1) := by decide +kernel
theorem d_B_block_70 : decode prog_1_method_6_code 70 = .ok (.aload_n 0, 1) := by decide +kernel
theorem d_B_block_71 : decode prog_1_method_6_code 71 = .ok (.getfield 30, 3) := by decide +kernel
theorem d_B_block_74 : decode prog_1_method_6_code 74 = .ok (.iload_n 1, 1) := by decide +kernel
theorem d_B_block_75 : decode prog_1_method_6_code 75 = .ok (.invokevirtual 107, 3) := by decide +kernel
theorem d_B_block_78 : decode prog_1_method_6_code 78 = .ok (.ireturn, 1) := by decide +kernel
theorem d_B_block_79 : decode prog_1_method_6_code 79 = .ok (.new 62, 3) := by decide +kernel
theorem d_B_block_82 : decode prog_1_method_6_code 82 = .ok (.dup, 1) := by decide +kernel
theorem d_B_block_83 : decode prog_1_method_6_code 83 = .ok (.ldc 110, 2) := by decide +kernel
theorem d_B_block_85 : decode prog_1_method_6_code 85 = .ok (.invokespecial 66, 3) := by decide +kernel
theorem d_B_block_88 : decode prog_1_method_6_code 88 = .ok (.athrow, 1) := by decide +kernel
def I_B_block (P : Int32 → ev_M → ev_L → Prop) (PX : Nat → ev_M → ev_L → Prop) : List (Nat × ev_T) := [(0, tt_il 1 1),
  (1, tt_iflt 15 4),
  (4, tt_il 1 5),
  (5, tt_al 0 6),
  (6, tt_gf evLY 6 3 9),
  (9, tt_cV evLY 0 0 ev_i pre_A_size post_A_size 12),
  (12, tt_iclt 25 15),
  (15, tt_th 0 PX),
  (25, tt_il 2 26),
  (26, tt_sw [(0, 52), (1, 61), (2, 70)] 79),
  (52, tt_al 0 53),
  (53, tt_gf evLY 6 3 56),
  (56, tt_il 1 57),
  (57, tt_cV evLY 0 1 ev_i pre_A_headOf post_A_headOf 60),
  (60, tt_ri P),
  (61, tt_al 0 62),
  (62, tt_gf evLY 6 3 65),
  (65, tt_il 1 66),
  (66, tt_cV evLY 0 1 ev_i pre_A_bytesOf post_A_bytesOf 69),
  (69, tt_ri P),
  (70, tt_al 0 71),
  (71, tt_gf evLY 6 3 74),
  (74, tt_il 1 75),
  (75, tt_cV evLY 0 1 ev_i pre_A_instructionsOf post_A_instructionsOf 78),
  (78, tt_ri P),
  (79, tt_th 1 PX)]
abbrev rm_B_block : Room := { frames := 6, cells := 1, slots := 6, locals := 192 }
set_option maxRecDepth 20000 in
theorem ok_B_block (l : Launch) (J : ev_K) (P : Int32 → ev_M → ev_L → Prop) (PX : Nat → ev_M → ev_L → Prop) (X : ev_X l rm_B_block evLY evCl ws_B_block prog_1_method_6_code 3 y_B_block.cls J) (Z : ev_Z J prog_1_method_6_code .ireturn ev_i P) (T : ex_Z J prog_1_method_6_code PX) : ev_oks J (I_B_block P PX) :=
  ⟨qq_iln X 1 rfl d_B_block_0,
  qq_iflt X 15 (by decide) d_B_block_1,
  qq_iln X 1 rfl d_B_block_4,
  qq_aln X 0 rfl d_B_block_5,
  qq_gf X 6 3 rfl (fun w h => List.mem_cons_of_mem _ (inE_B w h)) (by decide) (List.mem_cons_of_mem _ mw_196) d_B_block_6,
  qq_cV X 0 rfl (c_A_size l) (fun hts => cwV 0 hts (evGV (mw_487) (mw_488) (mw_489) (mw_4) (mw_490)) rfl rfl rfl (by decide +kernel) ⟨Nat.le_of_ble_eq_true rfl, Nat.le_of_ble_eq_true rfl⟩) d_B_block_9,
  qq_iclt X 25 (by decide) d_B_block_12,
  qq_th T 0 (by decide) (List.mem_of_getElem? (i := 5) rfl) d_B_block_15 d_B_block_18 d_B_block_19 d_B_block_21 d_B_block_24,
  qq_iln X 2 rfl d_B_block_25,
  qq_tsw X [(0, 52), (1, 61), (2, 70)] 79 (by decide) (by simp [ev_tOk]) d_B_block_26,
  qq_aln X 0 rfl d_B_block_52,
  qq_gf X 6 3 rfl (fun w h => List.mem_cons_of_mem _ (inE_B w h)) (by decide) (List.mem_cons_of_mem _ mw_196) d_B_block_53,
  qq_iln X 1 rfl d_B_block_56,
  qq_cV X 0 rfl (c_A_headOf l) (fun hts => cwV 1 hts (evGV (mw_499) (mw_500) (mw_501) (mw_4) (mw_502)) rfl rfl rfl (by decide +kernel) ⟨Nat.le_of_ble_eq_true rfl, Nat.le_of_ble_eq_true rfl⟩) d_B_block_57,
  qq_ri Z d_B_block_60,
  qq_aln X 0 rfl d_B_block_61,
  qq_gf X 6 3 rfl (fun w h => List.mem_cons_of_mem _ (inE_B w h)) (by decide) (List.mem_cons_of_mem _ mw_196) d_B_block_62,
  qq_iln X 1 rfl d_B_block_65,
  qq_cV X 0 rfl (c_A_bytesOf l) (fun hts => cwV 1 hts (evGV (mw_503) (mw_504) (mw_505) (mw_4) (mw_506)) rfl rfl rfl (by decide +kernel) ⟨Nat.le_of_ble_eq_true rfl, Nat.le_of_ble_eq_true rfl⟩) d_B_block_66,
  qq_ri Z d_B_block_69,
  qq_aln X 0 rfl d_B_block_70,
  qq_gf X 6 3 rfl (fun w h => List.mem_cons_of_mem _ (inE_B w h)) (by decide) (List.mem_cons_of_mem _ mw_196) d_B_block_71,
  qq_iln X 1 rfl d_B_block_74,
  qq_cV X 0 rfl (c_A_instructionsOf l) (fun hts => cwV 1 hts (evGV (mw_507) (mw_508) (mw_509) (mw_4) (mw_510)) rfl rfl rfl (by decide +kernel) ⟨Nat.le_of_ble_eq_true rfl, Nat.le_of_ble_eq_true rfl⟩) d_B_block_75,
  qq_ri Z d_B_block_78,
  qq_th T 1 (by decide) (List.mem_of_getElem? (i := 6) rfl) d_B_block_79 d_B_block_82 d_B_block_83 d_B_block_85 d_B_block_88, trivial⟩
set_option maxHeartbeats 4000000 in
set_option maxRecDepth 100000 in
theorem c_B_block (l : Launch) (hst : l.stackTraces = false) : ex_C ev_i l y_B_block ws_B_block rm_B_block evLY evCl pre_B_block post_B_block px_B_block := by
  refine ex_meth0 hst rfl (by decide) rfl ev_rop_i ?_ (by decide) I_B_block (ok_B_block l) 40 ?_
  · rintro _ σ τ ⟨a, w, rfl, hp⟩
    exact Nat.le_of_ble_eq_true rfl
  · rintro _ σ τ ⟨a, w, rfl, hp⟩
    have no : (¬ (0 ≤ a ∧ a < σ 8 10)) → px_B_block [.ref 0, .int a, .int w] σ τ 0 σ τ := fun h => ⟨Or.inl ⟨rfl, h⟩, rfl, rfl⟩
    refine br_c (fun h => ?_) (fun h => ?_)
    · exact no (fun q => absurd q.1 (Int32.not_le.mpr h))
    · refine ⟨rfl, ?_⟩
      rintro _ σ1 τ ⟨rfl, rfl, rfl⟩
      refine br_c (fun h2 => ?_) (fun h2 => ?_)
      · refine ⟨fun h0 => ?_, fun h0 => ⟨fun h1 => ?_, fun h1 => ⟨fun hw => ?_, fun hw => ?_⟩⟩⟩
        · refine ⟨⟨a, rfl, hp⟩, ?_⟩
          rintro _ σ1 τ ⟨rfl, rfl, rfl⟩
          exact ⟨⟨i_ge0 h, h2⟩, Or.inl ⟨h0, if_pos ⟨i_ge0 h, h2⟩⟩, rfl, rfl⟩
        · refine ⟨⟨a, rfl, hp⟩, ?_⟩
          rintro _ σ1 τ ⟨rfl, rfl, rfl⟩
          exact ⟨⟨i_ge0 h, h2⟩, Or.inr (Or.inl ⟨h1, if_pos ⟨i_ge0 h, h2⟩⟩), rfl, rfl⟩
        · refine ⟨⟨a, rfl, hp⟩, ?_⟩
          rintro _ σ1 τ ⟨rfl, rfl, rfl⟩
          exact ⟨⟨i_ge0 h, h2⟩, Or.inr (Or.inr ⟨hw, if_pos ⟨i_ge0 h, h2⟩⟩), rfl, rfl⟩
        · exact ⟨Or.inr ⟨rfl, ⟨i_ge0 h, h2⟩, h0, h1, hw⟩, rfl, rfl⟩
      · exact no (fun q => h2 q.2)
def y_B_register : MethodName := ⟨RX6, "register", "(I)I"⟩
def ws_B_register : List Cond := .code y_B_register prog_1_method_12_code 2 (some .int) :: evW
theorem d_B_register_0 : decode prog_1_method_12_code 0 = .ok (.iload_n 1, 1) := by decide +kernel
theorem d_B_register_1 : decode prog_1_method_12_code 1 = .ok (.ifCond .lt 17, 3) := by decide +kernel
theorem d_B_register_4 : decode prog_1_method_12_code 4 = .ok (.iload_n 1, 1) := by decide +kernel
theorem d_B_register_5 : decode prog_1_method_12_code 5 = .ok (.iconst 4, 1) := by decide +kernel
theorem d_B_register_6 : decode prog_1_method_12_code 6 = .ok (.if_icmp .ge 12, 3) := by decide +kernel
theorem d_B_register_9 : decode prog_1_method_12_code 9 = .ok (.aload_n 0, 1) := by decide +kernel
theorem d_B_register_10 : decode prog_1_method_12_code 10 = .ok (.getfield 44, 3) := by decide +kernel
theorem d_B_register_13 : decode prog_1_method_12_code 13 = .ok (.iload_n 1, 1) := by decide +kernel
theorem d_B_register_14 : decode prog_1_method_12_code 14 = .ok (.invokevirtual 158, 3) := by decide +kernel
theorem d_B_register_17 : decode prog_1_method_12_code 17 = .ok (.ireturn, 1) := by decide +kernel
theorem d_B_register_18 : decode prog_1_method_12_code 18 = .ok (.iload_n 1, 1) := by decide +kernel
theorem d_B_register_19 : decode prog_1_method_12_code 19 = .ok (.tableswitch 49 4 6 #[25, 33, 41], 25) := by decide +kernel
theorem d_B_register_44 : decode prog_1_method_12_code 44 = .ok (.aload_n 0, 1) := by decide +kernel
theorem d_B_register_45 : decode prog_1_method_12_code 45 = .ok (.getfield 44, 3) := by decide +kernel
theorem d_B_register_48 : decode prog_1_method_12_code 48 = .ok (.invokevirtual 161, 3) := by decide +kernel
theorem d_B_register_51 : decode prog_1_method_12_code 51 = .ok (.ireturn, 1) := by decide +kernel
theorem d_B_register_52 : decode prog_1_method_12_code 52 = .ok (.aload_n 0, 1) := by decide +kernel
theorem d_B_register_53 : decode prog_1_method_12_code 53 = .ok (.getfield 44, 3) := by decide +kernel
theorem d_B_register_56 : decode prog_1_method_12_code 56 = .ok (.invokevirtual 164, 3) := by decide +kernel
theorem d_B_register_59 : decode prog_1_method_12_code 59 = .ok (.ireturn, 1) := by decide +kernel
theorem d_B_register_60 : decode prog_1_method_12_code 60 = .ok (.aload_n 0, 1) := by decide +kernel
theorem d_B_register_61 : decode prog_1_method_12_code 61 = .ok (.getfield 44, 3) := by decide +kernel
theorem d_B_register_64 : decode prog_1_method_12_code 64 = .ok (.invokevirtual 167, 3) := by decide +kernel
theorem d_B_register_67 : decode prog_1_method_12_code 67 = .ok (.ireturn, 1) := by decide +kernel
theorem d_B_register_68 : decode prog_1_method_12_code 68 = .ok (.new 48, 3) := by decide +kernel
theorem d_B_register_71 : decode prog_1_method_12_code 71 = .ok (.dup, 1) := by decide +kernel
theorem d_B_register_72 : decode prog_1_method_12_code 72 = .ok (.ldc 170, 2) := by decide +kernel
theorem d_B_register_74 : decode prog_1_method_12_code 74 = .ok (.invokespecial 52, 3) := by decide +kernel
theorem d_B_register_77 : decode prog_1_method_12_code 77 = .ok (.athrow, 1) := by decide +kernel
def I_B_register (P : Int32 → ev_M → ev_L → Prop) (PX : Nat → ev_M → ev_L → Prop) : List (Nat × ev_T) := [(0, tt_il 1 1),
  (1, tt_iflt 18 4),
  (4, tt_il 1 5),
  (5, tt_k 4 6),
  (6, tt_icge 18 9),
  (9, tt_al 0 10),
  (10, tt_gf evLY 6 5 13),
  (13, tt_il 1 14),
  (14, tt_cV evLY 2 1 ev_i pre_M_registerValue post_M_registerValue 17),
  (17, tt_ri P),
  (18, tt_il 1 19),
  (19, tt_sw [(4, 44), (5, 52), (6, 60)] 68),
  (44, tt_al 0 45),
  (45, tt_gf evLY 6 5 48),
  (48, tt_cV evLY 2 0 ev_i pre_M_position post_M_position 51),
  (51, tt_ri P),
  (52, tt_al 0 53),
  (53, tt_gf evLY 6 5 56),
  (56, tt_cV evLY 2 0 ev_i pre_M_pushed post_M_pushed 59),
  (59, tt_ri P),
  (60, tt_al 0 61),
  (61, tt_gf evLY 6 5 64),
  (64, tt_cV evLY 2 0 ev_i pre_M_printed post_M_printed 67),
  (67, tt_ri P),
  (68, tt_th 0 PX)]
abbrev rm_B_register : Room := { frames := 6, cells := 1, slots := 6, locals := 192 }
set_option maxRecDepth 20000 in
theorem ok_B_register (l : Launch) (J : ev_K) (P : Int32 → ev_M → ev_L → Prop) (PX : Nat → ev_M → ev_L → Prop) (X : ev_X l rm_B_register evLY evCl ws_B_register prog_1_method_12_code 2 y_B_register.cls J) (Z : ev_Z J prog_1_method_12_code .ireturn ev_i P) (T : ex_Z J prog_1_method_12_code PX) : ev_oks J (I_B_register P PX) :=
  ⟨qq_iln X 1 rfl d_B_register_0,
  qq_iflt X 18 (by decide) d_B_register_1,
  qq_iln X 1 rfl d_B_register_4,
  qq_ic X 4 (by decide) d_B_register_5,
  qq_icge X 18 (by decide) d_B_register_6,
  qq_aln X 0 rfl d_B_register_9,
  qq_gf X 6 5 rfl (fun w h => List.mem_cons_of_mem _ (inE_B w h)) (by decide) (List.mem_cons_of_mem _ mw_198) d_B_register_10,
  qq_iln X 1 rfl d_B_register_13,
  qq_cV X 2 rfl (c_M_registerValue l) (fun hts => cwV 1 hts (evGV (mw_696) (mw_697) (mw_698) (mw_7) (mw_699)) rfl rfl rfl (by decide +kernel) ⟨Nat.le_of_ble_eq_true rfl, Nat.le_of_ble_eq_true rfl⟩) d_B_register_14,
  qq_ri Z d_B_register_17,
  qq_iln X 1 rfl d_B_register_18,
  qq_tsw X [(4, 44), (5, 52), (6, 60)] 68 (by decide) (by simp [ev_tOk]) d_B_register_19,
  qq_aln X 0 rfl d_B_register_44,
  qq_gf X 6 5 rfl (fun w h => List.mem_cons_of_mem _ (inE_B w h)) (by decide) (List.mem_cons_of_mem _ mw_198) d_B_register_45,
  qq_cV X 2 rfl (c_M_position l) (fun hts => cwV 0 hts (evGV (mw_700) (mw_701) (mw_702) (mw_7) (mw_703)) rfl rfl rfl (by decide +kernel) ⟨Nat.le_of_ble_eq_true rfl, Nat.le_of_ble_eq_true rfl⟩) d_B_register_48,
  qq_ri Z d_B_register_51,
  qq_aln X 0 rfl d_B_register_52,
  qq_gf X 6 5 rfl (fun w h => List.mem_cons_of_mem _ (inE_B w h)) (by decide) (List.mem_cons_of_mem _ mw_198) d_B_register_53,
  qq_cV X 2 rfl (c_M_pushed l) (fun hts => cwV 0 hts (evGV (mw_704) (mw_705) (mw_706) (mw_7) (mw_707)) rfl rfl rfl (by decide +kernel) ⟨Nat.le_of_ble_eq_true rfl, Nat.le_of_ble_eq_true rfl⟩) d_B_register_56,
  qq_ri Z d_B_register_59,
  qq_aln X 0 rfl d_B_register_60,
  qq_gf X 6 5 rfl (fun w h => List.mem_cons_of_mem _ (inE_B w h)) (by decide) (List.mem_cons_of_mem _ mw_198) d_B_register_61,
  qq_cV X 2 rfl (c_M_printed l) (fun hts => cwV 0 hts (evGV (mw_708) (mw_709) (mw_710) (mw_7) (mw_711)) rfl rfl rfl (by decide +kernel) ⟨Nat.le_of_ble_eq_true rfl, Nat.le_of_ble_eq_true rfl⟩) d_B_register_64,
  qq_ri Z d_B_register_67,
  qq_th T 0 (by decide) (List.mem_of_getElem? (i := 12) rfl) d_B_register_68 d_B_register_71 d_B_register_72 d_B_register_74 d_B_register_77, trivial⟩
set_option maxHeartbeats 4000000 in
set_option maxRecDepth 100000 in
theorem c_B_register (l : Launch) (hst : l.stackTraces = false) : ex_C ev_i l y_B_register ws_B_register rm_B_register evLY evCl pre_B_register post_B_register px_B_register := by
  refine ex_meth0 hst rfl (by decide) rfl ev_rop_i ?_ (by decide) I_B_register (ok_B_register l) 40 ?_
  · rintro _ σ τ ⟨a, rfl⟩
    exact Nat.le_of_ble_eq_true rfl
  · rintro _ σ τ ⟨a, rfl⟩
    have h4 : (4 : Int32).toInt = 4 := rfl
    have h5 : (5 : Int32).toInt = 5 := rfl
    have h6 : (6 : Int32).toInt = 6 := rfl
    have h0 : (0 : Int32).toInt = 0 := rfl
    have hn4 : ¬ (0 ≤ a ∧ a < 4) → ¬ a = 4 → ¬ a = 5 → ¬ a = 6 → ¬ (0 ≤ a ∧ a ≤ 6) := by
      intro hn x4 x5 x6 q
      rw [Int32.le_iff_toInt_le, Int32.le_iff_toInt_le] at q
      have hna : ¬ (0 ≤ a.toInt ∧ a.toInt < 4) := fun z => hn ⟨by rw [Int32.le_iff_toInt_le]; omega, by rw [Int32.lt_iff_toInt_lt]; omega⟩
      have y4 : ¬ a.toInt = 4 := fun z => x4 (Int32.toInt_inj.mp (z.trans h4.symm))
      have y5 : ¬ a.toInt = 5 := fun z => x5 (Int32.toInt_inj.mp (z.trans h5.symm))
      have y6 : ¬ a.toInt = 6 := fun z => x6 (Int32.toInt_inj.mp (z.trans h6.symm))
      omega
    refine br_c (fun h => ?_) (fun h => ?_)
    · have hn : ¬ (0 ≤ a ∧ a < 4) := fun q => absurd q.1 (Int32.not_le.mpr h)
      clear h
      refine ⟨fun x4 => ?_, fun x4 => ⟨fun x5 => ?_, fun x5 => ⟨fun x6 => ?_, fun x6 => ?_⟩⟩⟩
      · subst x4
        refine ⟨rfl, ?_⟩
        rintro _ σ1 τ ⟨rfl, rfl, rfl⟩
        exact ⟨by decide, rfl, rfl, rfl⟩
      · subst x5
        refine ⟨rfl, ?_⟩
        rintro _ σ1 τ ⟨rfl, rfl, rfl⟩
        exact ⟨by decide, rfl, rfl, rfl⟩
      · subst x6
        refine ⟨rfl, ?_⟩
        rintro _ σ1 τ ⟨rfl, rfl, rfl⟩
        exact ⟨by decide, rfl, rfl, rfl⟩
      · exact ⟨rfl, hn4 hn x4 x5 x6, rfl, rfl⟩
    · refine br_c (fun h2 => ?_) (fun h2 => ?_)
      · have hn : ¬ (0 ≤ a ∧ a < 4) := fun q => absurd q.2 (Int32.not_lt.mpr h2)
        clear h h2
        refine ⟨fun x4 => ?_, fun x4 => ⟨fun x5 => ?_, fun x5 => ⟨fun x6 => ?_, fun x6 => ?_⟩⟩⟩
        · subst x4
          refine ⟨rfl, ?_⟩
          rintro _ σ1 τ ⟨rfl, rfl, rfl⟩
          exact ⟨by decide, rfl, rfl, rfl⟩
        · subst x5
          refine ⟨rfl, ?_⟩
          rintro _ σ1 τ ⟨rfl, rfl, rfl⟩
          exact ⟨by decide, rfl, rfl, rfl⟩
        · subst x6
          refine ⟨rfl, ?_⟩
          rintro _ σ1 τ ⟨rfl, rfl, rfl⟩
          exact ⟨by decide, rfl, rfl, rfl⟩
        · exact ⟨rfl, hn4 hn x4 x5 x6, rfl, rfl⟩
      · refine ⟨⟨a, rfl⟩, ?_⟩
        rintro _ σ1 τ ⟨rfl, rfl, rfl⟩
        have h2' := Int32.not_le.mp h2
        refine ⟨⟨i_ge0 h, ?_⟩, ?_, rfl, rfl⟩
        · rw [Int32.le_iff_toInt_le]
          have := Int32.lt_iff_toInt_lt.mp h2'
          omega
        · rw [and3 h h2']
          exact (if_pos h2').symm
