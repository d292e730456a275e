/-! the face's walks, on -/
def y_B_data : MethodName := ⟨RX6, "data", "(II)V"⟩
def ws_B_data : List Cond := .code y_B_data prog_1_method_4_code 3 none :: evW
theorem d_B_data_0 : decode prog_1_method_4_code 0 = .ok (.iload_n 1, 1) := by decide +kernel
theorem d_B_data_1 : decode prog_1_method_4_code 1 = .ok (.ifCond .lt 9, 3) := by decide +kernel
theorem d_B_data_4 : decode prog_1_method_4_code 4 = .ok (.iload_n 1, 1) := by decide +kernel
theorem d_B_data_5 : decode prog_1_method_4_code 5 = .ok (.bipush 16, 2) := by decide +kernel
theorem d_B_data_7 : decode prog_1_method_4_code 7 = .ok (.if_icmp .lt 13, 3) := by decide +kernel
theorem d_B_data_10 : decode prog_1_method_4_code 10 = .ok (.new 48, 3) := by decide +kernel
theorem d_B_data_13 : decode prog_1_method_4_code 13 = .ok (.dup, 1) := by decide +kernel
theorem d_B_data_14 : decode prog_1_method_4_code 14 = .ok (.ldc 83, 2) := by decide +kernel
theorem d_B_data_16 : decode prog_1_method_4_code 16 = .ok (.invokespecial 52, 3) := by decide +kernel
theorem d_B_data_19 : decode prog_1_method_4_code 19 = .ok (.athrow, 1) := by decide +kernel
theorem d_B_data_20 : decode prog_1_method_4_code 20 = .ok (.aload_n 0, 1) := by decide +kernel
theorem d_B_data_21 : decode prog_1_method_4_code 21 = .ok (.getfield 23, 3) := by decide +kernel
theorem d_B_data_24 : decode prog_1_method_4_code 24 = .ok (.iload_n 1, 1) := by decide +kernel
theorem d_B_data_25 : decode prog_1_method_4_code 25 = .ok (.iload_n 2, 1) := by decide +kernel
theorem d_B_data_26 : decode prog_1_method_4_code 26 = .ok (.iastore, 1) := by decide +kernel
theorem d_B_data_27 : decode prog_1_method_4_code 27 = .ok (.return_, 1) := by decide +kernel
def I_B_data (P : Unit → ev_M → ev_L → Prop) (PX : Nat → ev_M → ev_L → Prop) : List (Nat × ev_T) := [(0, tt_il 1 1),
  (1, tt_iflt 10 4),
  (4, tt_il 1 5),
  (5, tt_k 16 7),
  (7, tt_iclt 20 10),
  (10, tt_th 0 PX),
  (20, tt_al 0 21),
  (21, tt_gf evLY 6 2 24),
  (24, tt_il 1 25),
  (25, tt_il 2 26),
  (26, tt_ias evLY 27),
  (27, tt_rv P)]
abbrev rm_B_data : Room := { frames := 6, cells := 1, slots := 6, locals := 192 }
set_option maxRecDepth 20000 in
theorem ok_B_data (l : Launch) (J : ev_K) (P : Unit → ev_M → ev_L → Prop) (PX : Nat → ev_M → ev_L → Prop) (X : ev_X l rm_B_data evLY evCl ws_B_data prog_1_method_4_code 3 y_B_data.cls J) (Z : ev_Z J prog_1_method_4_code .return_ ev_n P) (T : ex_Z J prog_1_method_4_code PX) : ev_oks J (I_B_data P PX) :=
  ⟨qq_iln X 1 rfl d_B_data_0,
  qq_iflt X 10 (by decide) d_B_data_1,
  qq_iln X 1 rfl d_B_data_4,
  qq_bp X 16 (by decide) d_B_data_5,
  qq_iclt X 20 (by decide) d_B_data_7,
  qq_th T 0 (by decide) (List.mem_of_getElem? (i := 3) rfl) d_B_data_10 d_B_data_13 d_B_data_14 d_B_data_16 d_B_data_19,
  qq_aln X 0 rfl d_B_data_20,
  qq_gf X 6 2 rfl (fun w h => List.mem_cons_of_mem _ (inE_B w h)) (by decide) (List.mem_cons_of_mem _ mw_195) d_B_data_21,
  qq_iln X 1 rfl d_B_data_24,
  qq_iln X 2 rfl d_B_data_25,
  qq_ias X d_B_data_26,
  qq_rv Z d_B_data_27, trivial⟩
set_option maxHeartbeats 4000000 in
set_option maxRecDepth 100000 in
theorem c_B_data (l : Launch) (hst : l.stackTraces = false) : ex_C ev_n l y_B_data ws_B_data rm_B_data evLY evCl pre_B_data post_B_data px_B_data := by
  refine ex_meth0 hst rfl (by decide) rfl ev_rop_v ?_ (by decide) I_B_data (ok_B_data l) 40 ?_
  · rintro _ σ τ ⟨a, v, rfl⟩
    exact Nat.le_of_ble_eq_true rfl
  · rintro _ σ τ ⟨a, v, rfl⟩
    have no : (¬ (0 ≤ a ∧ a < 16)) → px_B_data [.ref 0, .int a, .int v] σ τ 0 σ τ := fun h => ⟨rfl, h, rfl, rfl⟩
    refine br_c (fun h => ?_) (fun h => ?_)
    · exact no (fun q => absurd q.1 (Int32.not_le.mpr h))
    · refine br_c (fun h2 => ?_) (fun h2 => ?_)
      · refine ⟨vp_in_lt (z := 16) h h2 rfl, ?_⟩
        exact ⟨⟨i_ge0 h, h2⟩, rfl, rfl⟩
      · exact no (fun q => h2 q.2)
def y_B_cell : MethodName := ⟨RX6, "cell", "(I)I"⟩
def ws_B_cell : List Cond := .code y_B_cell prog_1_method_13_code 2 (some .int) :: evW
theorem d_B_cell_0 : decode prog_1_method_13_code 0 = .ok (.iload_n 1, 1) := by decide +kernel
theorem d_B_cell_1 : decode prog_1_method_13_code 1 = .ok (.ifCond .lt 9, 3) := by decide +kernel
theorem d_B_cell_4 : decode prog_1_method_13_code 4 = .ok (.iload_n 1, 1) := by decide +kernel
theorem d_B_cell_5 : decode prog_1_method_13_code 5 = .ok (.bipush 16, 2) := by decide +kernel
theorem d_B_cell_7 : decode prog_1_method_13_code 7 = .ok (.if_icmp .lt 13, 3) := by decide +kernel
theorem d_B_cell_10 : decode prog_1_method_13_code 10 = .ok (.new 48, 3) := by decide +kernel
theorem d_B_cell_13 : decode prog_1_method_13_code 13 = .ok (.dup, 1) := by decide +kernel
theorem d_B_cell_14 : decode prog_1_method_13_code 14 = .ok (.ldc 83, 2) := by decide +kernel
theorem d_B_cell_16 : decode prog_1_method_13_code 16 = .ok (.invokespecial 52, 3) := by decide +kernel
theorem d_B_cell_19 : decode prog_1_method_13_code 19 = .ok (.athrow, 1) := by decide +kernel
theorem d_B_cell_20 : decode prog_1_method_13_code 20 = .ok (.aload_n 0, 1) := by decide +kernel
theorem d_B_cell_21 : decode prog_1_method_13_code 21 = .ok (.getfield 44, 3) := by decide +kernel
theorem d_B_cell_24 : decode prog_1_method_13_code 24 = .ok (.iload_n 1, 1) := by decide +kernel
theorem d_B_cell_25 : decode prog_1_method_13_code 25 = .ok (.invokevirtual 172, 3) := by decide +kernel
theorem d_B_cell_28 : decode prog_1_method_13_code 28 = .ok (.ireturn, 1) := by decide +kernel
def I_B_cell (P : Int32 → ev_M → ev_L → Prop) (PX : Nat → ev_M → ev_L → Prop) : List (Nat × ev_T) := [(0, tt_il 1 1),
  (1, tt_iflt 10 4),
  (4, tt_il 1 5),
  (5, tt_k 16 7),
  (7, tt_iclt 20 10),
  (10, tt_th 0 PX),
  (20, tt_al 0 21),
  (21, tt_gf evLY 6 5 24),
  (24, tt_il 1 25),
  (25, tt_cV evLY 2 1 ev_i pre_M_cellValue post_M_cellValue 28),
  (28, tt_ri P)]
abbrev rm_B_cell : Room := { frames := 6, cells := 1, slots := 6, locals := 192 }
set_option maxRecDepth 20000 in
theorem ok_B_cell (l : Launch) (J : ev_K) (P : Int32 → ev_M → ev_L → Prop) (PX : Nat → ev_M → ev_L → Prop) (X : ev_X l rm_B_cell evLY evCl ws_B_cell prog_1_method_13_code 2 y_B_cell.cls J) (Z : ev_Z J prog_1_method_13_code .ireturn ev_i P) (T : ex_Z J prog_1_method_13_code PX) : ev_oks J (I_B_cell P PX) :=
  ⟨qq_iln X 1 rfl d_B_cell_0,
  qq_iflt X 10 (by decide) d_B_cell_1,
  qq_iln X 1 rfl d_B_cell_4,
  qq_bp X 16 (by decide) d_B_cell_5,
  qq_iclt X 20 (by decide) d_B_cell_7,
  qq_th T 0 (by decide) (List.mem_of_getElem? (i := 3) rfl) d_B_cell_10 d_B_cell_13 d_B_cell_14 d_B_cell_16 d_B_cell_19,
  qq_aln X 0 rfl d_B_cell_20,
  qq_gf X 6 5 rfl (fun w h => List.mem_cons_of_mem _ (inE_B w h)) (by decide) (List.mem_cons_of_mem _ mw_198) d_B_cell_21,
  qq_iln X 1 rfl d_B_cell_24,
  qq_cV X 2 rfl (c_M_cellValue l) (fun hts => cwV 1 hts (evGV (mw_720) (mw_721) (mw_722) (mw_7) (mw_723)) rfl rfl rfl (by decide +kernel) ⟨Nat.le_of_ble_eq_true rfl, Nat.le_of_ble_eq_true rfl⟩) d_B_cell_25,
  qq_ri Z d_B_cell_28, trivial⟩
set_option maxHeartbeats 4000000 in
set_option maxRecDepth 100000 in
theorem c_B_cell (l : Launch) (hst : l.stackTraces = false) : ex_C ev_i l y_B_cell ws_B_cell rm_B_cell evLY evCl pre_B_cell post_B_cell px_B_cell := by
  refine ex_meth0 hst rfl (by decide) rfl ev_rop_i ?_ (by decide) I_B_cell (ok_B_cell l) 40 ?_
  · rintro _ σ τ ⟨a, rfl⟩
    exact Nat.le_of_ble_eq_true rfl
  · rintro _ σ τ ⟨a, rfl⟩
    have no : (¬ (0 ≤ a ∧ a < 16)) → px_B_cell [.ref 0, .int a] σ τ 0 σ τ := fun h => ⟨rfl, h, rfl, rfl⟩
    refine br_c (fun h => ?_) (fun h => ?_)
    · exact no (fun q => absurd q.1 (Int32.not_le.mpr h))
    · refine br_c (fun h2 => ?_) (fun h2 => ?_)
      · refine ⟨⟨a, rfl⟩, ?_⟩
        rintro _ σ1 τ ⟨rfl, rfl, rfl⟩
        exact ⟨⟨i_ge0 h, h2⟩, by rw [and15 h h2], rfl, rfl⟩
      · exact no (fun q => h2 q.2)
def y_B_counter : MethodName := ⟨RX6, "counter", "(I)J"⟩
def ws_B_counter : List Cond := .code y_B_counter prog_1_method_15_code 2 (some .long) :: evW
theorem d_B_counter_0 : decode prog_1_method_15_code 0 = .ok (.iload_n 1, 1) := by decide +kernel
theorem d_B_counter_1 : decode prog_1_method_15_code 1 = .ok (.ifCond .lt 9, 3) := by decide +kernel
theorem d_B_counter_4 : decode prog_1_method_15_code 4 = .ok (.iload_n 1, 1) := by decide +kernel
theorem d_B_counter_5 : decode prog_1_method_15_code 5 = .ok (.bipush 64, 2) := by decide +kernel
theorem d_B_counter_7 : decode prog_1_method_15_code 7 = .ok (.if_icmp .lt 13, 3) := by decide +kernel
theorem d_B_counter_10 : decode prog_1_method_15_code 10 = .ok (.new 48, 3) := by decide +kernel
theorem d_B_counter_13 : decode prog_1_method_15_code 13 = .ok (.dup, 1) := by decide +kernel
theorem d_B_counter_14 : decode prog_1_method_15_code 14 = .ok (.ldc 180, 2) := by decide +kernel
theorem d_B_counter_16 : decode prog_1_method_15_code 16 = .ok (.invokespecial 52, 3) := by decide +kernel
theorem d_B_counter_19 : decode prog_1_method_15_code 19 = .ok (.athrow, 1) := by decide +kernel
theorem d_B_counter_20 : decode prog_1_method_15_code 20 = .ok (.aload_n 0, 1) := by decide +kernel
theorem d_B_counter_21 : decode prog_1_method_15_code 21 = .ok (.getfield 44, 3) := by decide +kernel
theorem d_B_counter_24 : decode prog_1_method_15_code 24 = .ok (.iload_n 1, 1) := by decide +kernel
theorem d_B_counter_25 : decode prog_1_method_15_code 25 = .ok (.invokevirtual 182, 3) := by decide +kernel
theorem d_B_counter_28 : decode prog_1_method_15_code 28 = .ok (.lreturn, 1) := by decide +kernel
def I_B_counter (P : Int64 → ev_M → ev_L → Prop) (PX : Nat → ev_M → ev_L → Prop) : List (Nat × ev_T) := [(0, tt_il 1 1),
  (1, tt_iflt 10 4),
  (4, tt_il 1 5),
  (5, tt_k 64 7),
  (7, tt_iclt 20 10),
  (10, tt_th 0 PX),
  (20, tt_al 0 21),
  (21, tt_gf evLY 6 5 24),
  (24, tt_il 1 25),
  (25, tt_cV evLY 2 1 ev_l pre_M_count post_M_count 28),
  (28, tt_rl P)]
abbrev rm_B_counter : Room := { frames := 6, cells := 1, slots := 6, locals := 192 }
set_option maxRecDepth 20000 in
theorem ok_B_counter (l : Launch) (J : ev_K) (P : Int64 → ev_M → ev_L → Prop) (PX : Nat → ev_M → ev_L → Prop) (X : ev_X l rm_B_counter evLY evCl ws_B_counter prog_1_method_15_code 2 y_B_counter.cls J) (Z : ev_Z J prog_1_method_15_code .lreturn ev_l P) (T : ex_Z J prog_1_method_15_code PX) : ev_oks J (I_B_counter P PX) :=
  ⟨qq_iln X 1 rfl d_B_counter_0,
  qq_iflt X 10 (by decide) d_B_counter_1,
  qq_iln X 1 rfl d_B_counter_4,
  qq_bp X 64 (by decide) d_B_counter_5,
  qq_iclt X 20 (by decide) d_B_counter_7,
  qq_th T 0 (by decide) (List.mem_of_getElem? (i := 14) rfl) d_B_counter_10 d_B_counter_13 d_B_counter_14 d_B_counter_16 d_B_counter_19,
  qq_aln X 0 rfl d_B_counter_20,
  qq_gf X 6 5 rfl (fun w h => List.mem_cons_of_mem _ (inE_B w h)) (by decide) (List.mem_cons_of_mem _ mw_198) d_B_counter_21,
  qq_iln X 1 rfl d_B_counter_24,
  qq_cV X 2 rfl (c_M_count l) (fun hts => cwV 1 hts (evGV (mw_744) (mw_745) (mw_746) (mw_7) (mw_747)) rfl rfl rfl (by decide +kernel) ⟨Nat.le_of_ble_eq_true rfl, Nat.le_of_ble_eq_true rfl⟩) d_B_counter_25,
  qq_rl Z d_B_counter_28, trivial⟩
set_option maxHeartbeats 4000000 in
set_option maxRecDepth 100000 in
theorem c_B_counter (l : Launch) (hst : l.stackTraces = false) : ex_C ev_l l y_B_counter ws_B_counter rm_B_counter evLY evCl pre_B_counter post_B_counter px_B_counter := by
  refine ex_meth0 hst rfl (by decide) rfl ev_rop_l ?_ (by decide) I_B_counter (ok_B_counter l) 40 ?_
  · rintro _ σ τ ⟨a, rfl⟩
    exact Nat.le_of_ble_eq_true rfl
  · rintro _ σ τ ⟨a, rfl⟩
    have no : (¬ (0 ≤ a ∧ a < 64)) → px_B_counter [.ref 0, .int a] σ τ 0 σ τ := fun h => ⟨rfl, h, rfl, rfl⟩
    refine br_c (fun h => ?_) (fun h => ?_)
    · exact no (fun q => absurd q.1 (Int32.not_le.mpr h))
    · refine br_c (fun h2 => ?_) (fun h2 => ?_)
      · refine ⟨⟨a, rfl⟩, ?_⟩
        rintro _ σ1 τ ⟨rfl, rfl, rfl⟩
        exact ⟨⟨i_ge0 h, h2⟩, by rw [and63 h h2], rfl, rfl⟩
      · exact no (fun q => h2 q.2)
def y_B_output : MethodName := ⟨RX6, "output", "(I)I"⟩
def ws_B_output : List Cond := .code y_B_output prog_1_method_14_code 2 (some .int) :: evW
theorem d_B_output_0 : decode prog_1_method_14_code 0 = .ok (.iload_n 1, 1) := by decide +kernel
theorem d_B_output_1 : decode prog_1_method_14_code 1 = .ok (.ifCond .lt 14, 3) := by decide +kernel
theorem d_B_output_4 : decode prog_1_method_14_code 4 = .ok (.iload_n 1, 1) := by decide +kernel
theorem d_B_output_5 : decode prog_1_method_14_code 5 = .ok (.aload_n 0, 1) := by decide +kernel
theorem d_B_output_6 : decode prog_1_method_14_code 6 = .ok (.getfield 44, 3) := by decide +kernel
theorem d_B_output_9 : decode prog_1_method_14_code 9 = .ok (.invokevirtual 167, 3) := by decide +kernel
theorem d_B_output_12 : decode prog_1_method_14_code 12 = .ok (.if_icmp .lt 13, 3) := by decide +kernel
theorem d_B_output_15 : decode prog_1_method_14_code 15 = .ok (.new 48, 3) := by decide +kernel
theorem d_B_output_18 : decode prog_1_method_14_code 18 = .ok (.dup, 1) := by decide +kernel
theorem d_B_output_19 : decode prog_1_method_14_code 19 = .ok (.ldc 175, 2) := by decide +kernel
theorem d_B_output_21 : decode prog_1_method_14_code 21 = .ok (.invokespecial 52, 3) := by decide +kernel
theorem d_B_output_24 : decode prog_1_method_14_code 24 = .ok (.athrow, 1) := by decide +kernel
theorem d_B_output_25 : decode prog_1_method_14_code 25 = .ok (.aload_n 0, 1) := by decide +kernel
theorem d_B_output_26 : decode prog_1_method_14_code 26 = .ok (.getfield 44, 3) := by decide +kernel
theorem d_B_output_29 : decode prog_1_method_14_code 29 = .ok (.iload_n 1, 1) := by decide +kernel
theorem d_B_output_30 : decode prog_1_method_14_code 30 = .ok (.invokevirtual 177, 3) := by decide +kernel
theorem d_B_output_33 : decode prog_1_method_14_code 33 = .ok (.ireturn, 1) := by decide +kernel
def I_B_output (P : Int32 → ev_M → ev_L → Prop) (PX : Nat → ev_M → ev_L → Prop) : List (Nat × ev_T) := [(0, tt_il 1 1),
  (1, tt_iflt 15 4),
  (4, tt_il 1 5),
  (5, tt_al 0 6),
  (6, tt_gf evLY 6 5 9),
  (9, tt_cV evLY 2 0 ev_i pre_M_printed post_M_printed 12),
  (12, tt_iclt 25 15),
  (15, tt_th 0 PX),
  (25, tt_al 0 26),
  (26, tt_gf evLY 6 5 29),
  (29, tt_il 1 30),
  (30, tt_cV evLY 2 1 ev_i pre_M_printedValue post_M_printedValue 33),
  (33, tt_ri P)]
abbrev rm_B_output : Room := { frames := 6, cells := 1, slots := 6, locals := 192 }
set_option maxRecDepth 20000 in
theorem ok_B_output (l : Launch) (J : ev_K) (P : Int32 → ev_M → ev_L → Prop) (PX : Nat → ev_M → ev_L → Prop) (X : ev_X l rm_B_output evLY evCl ws_B_output prog_1_method_14_code 2 y_B_output.cls J) (Z : ev_Z J prog_1_method_14_code .ireturn ev_i P) (T : ex_Z J prog_1_method_14_code PX) : ev_oks J (I_B_output P PX) :=
  ⟨qq_iln X 1 rfl d_B_output_0,
  qq_iflt X 15 (by decide) d_B_output_1,
  qq_iln X 1 rfl d_B_output_4,
  qq_aln X 0 rfl d_B_output_5,
  qq_gf X 6 5 rfl (fun w h => List.mem_cons_of_mem _ (inE_B w h)) (by decide) (List.mem_cons_of_mem _ mw_198) d_B_output_6,
  qq_cV X 2 rfl (c_M_printed l) (fun hts => cwV 0 hts (evGV (mw_708) (mw_709) (mw_710) (mw_7) (mw_711)) rfl rfl rfl (by decide +kernel) ⟨Nat.le_of_ble_eq_true rfl, Nat.le_of_ble_eq_true rfl⟩) d_B_output_9,
  qq_iclt X 25 (by decide) d_B_output_12,
  qq_th T 0 (by decide) (List.mem_of_getElem? (i := 13) rfl) d_B_output_15 d_B_output_18 d_B_output_19 d_B_output_21 d_B_output_24,
  qq_aln X 0 rfl d_B_output_25,
  qq_gf X 6 5 rfl (fun w h => List.mem_cons_of_mem _ (inE_B w h)) (by decide) (List.mem_cons_of_mem _ mw_198) d_B_output_26,
  qq_iln X 1 rfl d_B_output_29,
  qq_cV X 2 rfl (c_M_printedValue l) (fun hts => cwV 1 hts (evGV (mw_732) (mw_733) (mw_734) (mw_7) (mw_735)) rfl rfl rfl (by decide +kernel) ⟨Nat.le_of_ble_eq_true rfl, Nat.le_of_ble_eq_true rfl⟩) d_B_output_30,
  qq_ri Z d_B_output_33, trivial⟩
set_option maxHeartbeats 4000000 in
set_option maxRecDepth 100000 in
theorem c_B_output (l : Launch) (hst : l.stackTraces = false) : ex_C ev_i l y_B_output ws_B_output rm_B_output evLY evCl pre_B_output post_B_output px_B_output := by
  refine ex_meth0 hst rfl (by decide) rfl ev_rop_i ?_ (by decide) I_B_output (ok_B_output l) 40 ?_
  · rintro _ σ τ ⟨a, rfl, hp⟩
    exact Nat.le_of_ble_eq_true rfl
  · rintro _ σ τ ⟨a, rfl, hp⟩
    have no : (¬ (0 ≤ a ∧ a < σ 23 8)) → px_B_output [.ref 0, .int a] σ τ 0 σ τ := fun h => ⟨rfl, h, rfl, rfl⟩
    refine br_c (fun h => ?_) (fun h => ?_)
    · exact no (fun q => absurd q.1 (Int32.not_le.mpr h))
    · refine ⟨rfl, ?_⟩
      rintro _ σ1 τ ⟨rfl, rfl, rfl⟩
      refine br_c (fun h2 => ?_) (fun h2 => ?_)
      · refine ⟨⟨a, rfl, hp⟩, ?_⟩
        rintro _ σ1 τ ⟨rfl, rfl, rfl⟩
        exact ⟨⟨i_ge0 h, h2⟩, if_pos ⟨i_ge0 h, h2⟩, rfl, rfl⟩
      · exact no (fun q => h2 q.2)
