/-! Tables; Math.min -/
theorem bz {b : Bool} (h : (cond b 1 0 : Int32) = 0) : b = false := by cases b with | true => exact absurd h (by decide) | false => rfl
theorem bnz {b : Bool} (h : ¬ (cond b 1 0 : Int32) = 0) : b = true := by cases b with | true => rfl | false => exact absurd rfl h
def y_T_size : MethodName := ⟨RX5, "size", "()I"⟩
def ws_T_size : List Cond := .code y_T_size prog_7_method_2_code 1 (some .int) :: evW
theorem d_T_size_0 : decode prog_7_method_2_code 0 = .ok (.aload_n 0, 1) := by decide +kernel
theorem d_T_size_1 : decode prog_7_method_2_code 1 = .ok (.getfield 16, 3) := by decide +kernel
theorem d_T_size_4 : decode prog_7_method_2_code 4 = .ok (.ireturn, 1) := by decide +kernel
def I_T_size (P : Int32 → ev_M → ev_L → Prop) : List (Nat × ev_T) := [(0, tt_al 0 1),
  (1, tt_gf evLY 5 2 4),
  (4, tt_ri P)]
abbrev rm_T_size : Room := { frames := 0, cells := 0, slots := 0, locals := 0 }
set_option maxRecDepth 20000 in
theorem ok_T_size (l : Launch) (J : ev_K) (P : Int32 → ev_M → ev_L → Prop) (X : ev_X l rm_T_size evLY evCl ws_T_size prog_7_method_2_code 1 y_T_size.cls J) (Z : ev_Z J prog_7_method_2_code .ireturn ev_i P) : ev_oks J (I_T_size P) :=
  ⟨qq_aln X 0 rfl d_T_size_0,
  qq_gf X 5 2 rfl (fun w h => List.mem_cons_of_mem _ (inE_T w h)) (by decide) (List.mem_cons_of_mem _ mw_49) d_T_size_1,
  qq_ri Z d_T_size_4, trivial⟩
def pre_T_size : List Value → ev_M → ev_L → Prop := fun as _ _ => as = [.ref 4]
def post_T_size : List Value → ev_M → ev_L → Int32 → ev_M → ev_L → Prop := fun _ σ τ r σ' τ' => r = σ 4 2 ∧ σ' = σ ∧ τ' = τ
set_option maxHeartbeats 4000000 in
set_option maxRecDepth 100000 in
theorem c_T_size (l : Launch) : ev_C ev_i l y_T_size ws_T_size rm_T_size evLY evCl pre_T_size post_T_size := by
  refine ev_meth0 (by decide) rfl ev_rop_i ?_ I_T_size (ok_T_size l) 30 ?_
  · rintro _ σ τ rfl
    exact Nat.le_refl _
  · rintro _ σ τ rfl
    exact ⟨rfl, rfl, rfl⟩
def y_T_isFull : MethodName := ⟨RX5, "isFull", "()Z"⟩
def ws_T_isFull : List Cond := .code y_T_isFull prog_7_method_3_code 1 (some .boolean) :: evW
theorem d_T_isFull_0 : decode prog_7_method_3_code 0 = .ok (.aload_n 0, 1) := by decide +kernel
theorem d_T_isFull_1 : decode prog_7_method_3_code 1 = .ok (.getfield 16, 3) := by decide +kernel
theorem d_T_isFull_4 : decode prog_7_method_3_code 4 = .ok (.iconst 4, 1) := by decide +kernel
theorem d_T_isFull_5 : decode prog_7_method_3_code 5 = .ok (.if_icmp .lt 7, 3) := by decide +kernel
theorem d_T_isFull_8 : decode prog_7_method_3_code 8 = .ok (.iconst 1, 1) := by decide +kernel
theorem d_T_isFull_9 : decode prog_7_method_3_code 9 = .ok (.goto 4, 3) := by decide +kernel
theorem d_T_isFull_12 : decode prog_7_method_3_code 12 = .ok (.iconst 0, 1) := by decide +kernel
theorem d_T_isFull_13 : decode prog_7_method_3_code 13 = .ok (.ireturn, 1) := by decide +kernel
def I_T_isFull (P : Bool → ev_M → ev_L → Prop) : List (Nat × ev_T) := [(0, tt_al 0 1),
  (1, tt_gf evLY 5 2 4),
  (4, tt_k 4 5),
  (5, tt_iclt 12 8),
  (8, tt_k 1 9),
  (9, tt_go 13),
  (12, tt_k 0 13),
  (13, tt_rz P)]
abbrev rm_T_isFull : Room := { frames := 0, cells := 0, slots := 0, locals := 0 }
set_option maxRecDepth 20000 in
theorem ok_T_isFull (l : Launch) (J : ev_K) (P : Bool → ev_M → ev_L → Prop) (X : ev_X l rm_T_isFull evLY evCl ws_T_isFull prog_7_method_3_code 1 y_T_isFull.cls J) (Z : ev_Z J prog_7_method_3_code .ireturn ev_b P) : ev_oks J (I_T_isFull P) :=
  ⟨qq_aln X 0 rfl d_T_isFull_0,
  qq_gf X 5 2 rfl (fun w h => List.mem_cons_of_mem _ (inE_T w h)) (by decide) (List.mem_cons_of_mem _ mw_49) d_T_isFull_1,
  qq_ic X 4 (by decide) d_T_isFull_4,
  qq_iclt X 12 (by decide) d_T_isFull_5,
  qq_ic X 1 (by decide) d_T_isFull_8,
  qq_go X 13 (by decide) d_T_isFull_9,
  qq_ic X 0 (by decide) d_T_isFull_12,
  qq_rz Z d_T_isFull_13, trivial⟩
def pre_T_isFull : List Value → ev_M → ev_L → Prop := fun as _ _ => as = [.ref 4]
def post_T_isFull : List Value → ev_M → ev_L → Bool → ev_M → ev_L → Prop := fun _ σ τ r σ' τ' => r = decide (4 ≤ σ 4 2) ∧ σ' = σ ∧ τ' = τ
set_option maxHeartbeats 4000000 in
set_option maxRecDepth 100000 in
theorem c_T_isFull (l : Launch) : ev_C ev_b l y_T_isFull ws_T_isFull rm_T_isFull evLY evCl pre_T_isFull post_T_isFull := by
  refine ev_meth0 (by decide) rfl ev_rop_b ?_ I_T_isFull (ok_T_isFull l) 30 ?_
  · rintro _ σ τ rfl
    exact Nat.le_refl _
  · rintro _ σ τ rfl
    refine br_c (fun h => ?_) (fun h => ?_)
    · exact ⟨false, rfl, (decide_eq_false (Int32.not_le.mpr h)).symm, rfl, rfl⟩
    · exact ⟨true, rfl, (decide_eq_true (Int32.not_lt.mp h)).symm, rfl, rfl⟩
def y_T_add : MethodName := ⟨RX5, "add", "(II)V"⟩
def ws_T_add : List Cond := .code y_T_add prog_7_method_4_code 3 none :: evW
theorem d_T_add_0 : decode prog_7_method_4_code 0 = .ok (.aload_n 0, 1) := by decide +kernel
theorem d_T_add_1 : decode prog_7_method_4_code 1 = .ok (.invokevirtual 20, 3) := by decide +kernel
theorem d_T_add_4 : decode prog_7_method_4_code 4 = .ok (.ifCond .ne 33, 3) := by decide +kernel
theorem d_T_add_7 : decode prog_7_method_4_code 7 = .ok (.aload_n 0, 1) := by decide +kernel
theorem d_T_add_8 : decode prog_7_method_4_code 8 = .ok (.getfield 9, 3) := by decide +kernel
theorem d_T_add_11 : decode prog_7_method_4_code 11 = .ok (.aload_n 0, 1) := by decide +kernel
theorem d_T_add_12 : decode prog_7_method_4_code 12 = .ok (.getfield 16, 3) := by decide +kernel
theorem d_T_add_15 : decode prog_7_method_4_code 15 = .ok (.iload_n 1, 1) := by decide +kernel
theorem d_T_add_16 : decode prog_7_method_4_code 16 = .ok (.iastore, 1) := by decide +kernel
theorem d_T_add_17 : decode prog_7_method_4_code 17 = .ok (.aload_n 0, 1) := by decide +kernel
theorem d_T_add_18 : decode prog_7_method_4_code 18 = .ok (.getfield 13, 3) := by decide +kernel
theorem d_T_add_21 : decode prog_7_method_4_code 21 = .ok (.aload_n 0, 1) := by decide +kernel
theorem d_T_add_22 : decode prog_7_method_4_code 22 = .ok (.getfield 16, 3) := by decide +kernel
theorem d_T_add_25 : decode prog_7_method_4_code 25 = .ok (.iload_n 2, 1) := by decide +kernel
theorem d_T_add_26 : decode prog_7_method_4_code 26 = .ok (.iastore, 1) := by decide +kernel
theorem d_T_add_27 : decode prog_7_method_4_code 27 = .ok (.aload_n 0, 1) := by decide +kernel
theorem d_T_add_28 : decode prog_7_method_4_code 28 = .ok (.dup, 1) := by decide +kernel
theorem d_T_add_29 : decode prog_7_method_4_code 29 = .ok (.getfield 16, 3) := by decide +kernel
theorem d_T_add_32 : decode prog_7_method_4_code 32 = .ok (.iconst 1, 1) := by decide +kernel
theorem d_T_add_33 : decode prog_7_method_4_code 33 = .ok (.iadd, 1) := by decide +kernel
theorem d_T_add_34 : decode prog_7_method_4_code 34 = .ok (.putfield 16, 3) := by decide +kernel
theorem d_T_add_37 : decode prog_7_method_4_code 37 = .ok (.return_, 1) := by decide +kernel
def I_T_add (P : Unit → ev_M → ev_L → Prop) : List (Nat × ev_T) := [(0, tt_al 0 1),
  (1, tt_cV evLY 5 0 ev_b pre_T_isFull post_T_isFull 4),
  (4, tt_ifne 37 7),
  (7, tt_al 0 8),
  (8, tt_gf evLY 5 0 11),
  (11, tt_al 0 12),
  (12, tt_gf evLY 5 2 15),
  (15, tt_il 1 16),
  (16, tt_ias evLY 17),
  (17, tt_al 0 18),
  (18, tt_gf evLY 5 1 21),
  (21, tt_al 0 22),
  (22, tt_gf evLY 5 2 25),
  (25, tt_il 2 26),
  (26, tt_ias evLY 27),
  (27, tt_al 0 28),
  (28, tt_dup 29),
  (29, tt_gf evLY 5 2 32),
  (32, tt_k 1 33),
  (33, tt_iadd 34),
  (34, tt_pf evLY 5 2 37),
  (37, tt_rv P)]
abbrev rm_T_add : Room := { frames := 1, cells := 0, slots := 0, locals := 32 }
set_option maxRecDepth 20000 in
theorem ok_T_add (l : Launch) (J : ev_K) (P : Unit → ev_M → ev_L → Prop) (X : ev_X l rm_T_add evLY evCl ws_T_add prog_7_method_4_code 3 y_T_add.cls J) (Z : ev_Z J prog_7_method_4_code .return_ ev_n P) : ev_oks J (I_T_add P) :=
  ⟨qq_aln X 0 rfl d_T_add_0,
  qq_cV X 5 rfl (c_T_isFull l) (fun hts => cwV 0 hts (evGV (mw_374) (mw_351) (mw_352) (mw_3) (mw_353)) rfl rfl rfl (by decide +kernel) ⟨Nat.le_of_ble_eq_true rfl, Nat.le_of_ble_eq_true rfl⟩) d_T_add_1,
  qq_ifne X 37 (by decide) d_T_add_4,
  qq_aln X 0 rfl d_T_add_7,
  qq_gf X 5 0 rfl (fun w h => List.mem_cons_of_mem _ (inE_T w h)) (by decide) (List.mem_cons_of_mem _ mw_47) d_T_add_8,
  qq_aln X 0 rfl d_T_add_11,
  qq_gf X 5 2 rfl (fun w h => List.mem_cons_of_mem _ (inE_T w h)) (by decide) (List.mem_cons_of_mem _ mw_49) d_T_add_12,
  qq_iln X 1 rfl d_T_add_15,
  qq_ias X d_T_add_16,
  qq_aln X 0 rfl d_T_add_17,
  qq_gf X 5 1 rfl (fun w h => List.mem_cons_of_mem _ (inE_T w h)) (by decide) (List.mem_cons_of_mem _ mw_48) d_T_add_18,
  qq_aln X 0 rfl d_T_add_21,
  qq_gf X 5 2 rfl (fun w h => List.mem_cons_of_mem _ (inE_T w h)) (by decide) (List.mem_cons_of_mem _ mw_49) d_T_add_22,
  qq_iln X 2 rfl d_T_add_25,
  qq_ias X d_T_add_26,
  qq_aln X 0 rfl d_T_add_27,
  qq_dup X d_T_add_28,
  qq_gf X 5 2 rfl (fun w h => List.mem_cons_of_mem _ (inE_T w h)) (by decide) (List.mem_cons_of_mem _ mw_49) d_T_add_29,
  qq_ic X 1 (by decide) d_T_add_32,
  qq_iadd X d_T_add_33,
  qq_pf X 5 2 rfl (fun w h => List.mem_cons_of_mem _ (inE_T w h)) (by decide) tyX5 tyX5_ok nmX5 rfl (by decide +kernel) (List.mem_cons_of_mem _ mw_49) d_T_add_34,
  qq_rv Z d_T_add_37, trivial⟩
def sp_tadd (σ : ev_M) (b c : Int32) : ev_M := ev_u (ev_u (ev_u σ 5 (σ 4 2).toNatClampNeg b) 6 (σ 4 2).toNatClampNeg c) 4 2 (σ 4 2 + 1)
def pre_T_add : List Value → ev_M → ev_L → Prop := fun as σ _ => ∃ (b c : Int32), as = [.ref 4, .int b, .int c] ∧ 0 ≤ σ 4 2 ∧ σ 4 2 < 4
def post_T_add : List Value → ev_M → ev_L → Unit → ev_M → ev_L → Prop := fun as σ τ _ σ' τ' => match as with
  | [_, .int b, .int c] => σ' = sp_tadd σ b c ∧ τ' = τ
  | _ => False
set_option maxHeartbeats 4000000 in
set_option maxRecDepth 100000 in
theorem c_T_add (l : Launch) : ev_C ev_n l y_T_add ws_T_add rm_T_add evLY evCl pre_T_add post_T_add := by
  refine ev_meth0 (by decide) rfl ev_rop_v ?_ I_T_add (ok_T_add l) 40 ?_
  · rintro _ σ τ ⟨b, c, rfl, h⟩
    exact Nat.le_refl _
  · rintro _ σ τ ⟨b, c, rfl, h0, h4⟩
    refine ⟨rfl, ?_⟩
    rintro _ σ τ ⟨rfl, rfl, rfl⟩
    refine br_n (fun h => ?_) (fun h => ?_)
    · exact absurd (of_decide_eq_true (bnz h)) (Int32.not_le.mpr h4)
    · have hv : vp_in (σ 4 2) 4 := i_vin2 (b := 4) rfl h0 h4
      exact ⟨hv, hv, rfl, rfl⟩
def y_T_has : MethodName := ⟨RX5, "has", "(II)Z"⟩
def ws_T_has : List Cond := .code y_T_has prog_7_method_5_code 4 (some .boolean) :: evW
theorem d_T_has_0 : decode prog_7_method_5_code 0 = .ok (.iconst 0, 1) := by decide +kernel
theorem d_T_has_1 : decode prog_7_method_5_code 1 = .ok (.istore_n 3, 1) := by decide +kernel
theorem d_T_has_2 : decode prog_7_method_5_code 2 = .ok (.iload_n 3, 1) := by decide +kernel
theorem d_T_has_3 : decode prog_7_method_5_code 3 = .ok (.aload_n 0, 1) := by decide +kernel
theorem d_T_has_4 : decode prog_7_method_5_code 4 = .ok (.getfield 16, 3) := by decide +kernel
theorem d_T_has_7 : decode prog_7_method_5_code 7 = .ok (.if_icmp .ge 31, 3) := by decide +kernel
theorem d_T_has_10 : decode prog_7_method_5_code 10 = .ok (.aload_n 0, 1) := by decide +kernel
theorem d_T_has_11 : decode prog_7_method_5_code 11 = .ok (.getfield 9, 3) := by decide +kernel
theorem d_T_has_14 : decode prog_7_method_5_code 14 = .ok (.iload_n 3, 1) := by decide +kernel
theorem d_T_has_15 : decode prog_7_method_5_code 15 = .ok (.iaload, 1) := by decide +kernel
theorem d_T_has_16 : decode prog_7_method_5_code 16 = .ok (.iload_n 1, 1) := by decide +kernel
theorem d_T_has_17 : decode prog_7_method_5_code 17 = .ok (.if_icmp .ne 15, 3) := by decide +kernel
theorem d_T_has_20 : decode prog_7_method_5_code 20 = .ok (.aload_n 0, 1) := by decide +kernel
theorem d_T_has_21 : decode prog_7_method_5_code 21 = .ok (.getfield 13, 3) := by decide +kernel
theorem d_T_has_24 : decode prog_7_method_5_code 24 = .ok (.iload_n 3, 1) := by decide +kernel
theorem d_T_has_25 : decode prog_7_method_5_code 25 = .ok (.iaload, 1) := by decide +kernel
theorem d_T_has_26 : decode prog_7_method_5_code 26 = .ok (.iload_n 2, 1) := by decide +kernel
theorem d_T_has_27 : decode prog_7_method_5_code 27 = .ok (.if_icmp .ne 5, 3) := by decide +kernel
theorem d_T_has_30 : decode prog_7_method_5_code 30 = .ok (.iconst 1, 1) := by decide +kernel
theorem d_T_has_31 : decode prog_7_method_5_code 31 = .ok (.ireturn, 1) := by decide +kernel
theorem d_T_has_32 : decode prog_7_method_5_code 32 = .ok (.iinc 3 1, 3) := by decide +kernel
theorem d_T_has_35 : decode prog_7_method_5_code 35 = .ok (.goto (-33), 3) := by decide +kernel
theorem d_T_has_38 : decode prog_7_method_5_code 38 = .ok (.iconst 0, 1) := by decide +kernel
theorem d_T_has_39 : decode prog_7_method_5_code 39 = .ok (.ireturn, 1) := by decide +kernel
def I_T_has (P : Bool → ev_M → ev_L → Prop) : List (Nat × ev_T) := [(0, tt_k 0 1),
  (1, tt_is 3 2),
  (2, tt_il 3 3),
  (3, tt_al 0 4),
  (4, tt_gf evLY 5 2 7),
  (7, tt_icge 38 10),
  (10, tt_al 0 11),
  (11, tt_gf evLY 5 0 14),
  (14, tt_il 3 15),
  (15, tt_ia evLY 16),
  (16, tt_il 1 17),
  (17, tt_icne 32 20),
  (20, tt_al 0 21),
  (21, tt_gf evLY 5 1 24),
  (24, tt_il 3 25),
  (25, tt_ia evLY 26),
  (26, tt_il 2 27),
  (27, tt_icne 32 30),
  (30, tt_k 1 31),
  (31, tt_rz P),
  (32, tt_ii 3 1 35),
  (35, tt_go 2),
  (38, tt_k 0 39),
  (39, tt_rz P)]
abbrev rm_T_has : Room := { frames := 0, cells := 0, slots := 0, locals := 0 }
set_option maxRecDepth 20000 in
theorem ok_T_has (l : Launch) (J : ev_K) (P : Bool → ev_M → ev_L → Prop) (X : ev_X l rm_T_has evLY evCl ws_T_has prog_7_method_5_code 4 y_T_has.cls J) (Z : ev_Z J prog_7_method_5_code .ireturn ev_b P) : ev_oks J (I_T_has P) :=
  ⟨qq_ic X 0 (by decide) d_T_has_0,
  qq_isn X 3 rfl (by decide) d_T_has_1,
  qq_iln X 3 rfl d_T_has_2,
  qq_aln X 0 rfl d_T_has_3,
  qq_gf X 5 2 rfl (fun w h => List.mem_cons_of_mem _ (inE_T w h)) (by decide) (List.mem_cons_of_mem _ mw_49) d_T_has_4,
  qq_icge X 38 (by decide) d_T_has_7,
  qq_aln X 0 rfl d_T_has_10,
  qq_gf X 5 0 rfl (fun w h => List.mem_cons_of_mem _ (inE_T w h)) (by decide) (List.mem_cons_of_mem _ mw_47) d_T_has_11,
  qq_iln X 3 rfl d_T_has_14,
  qq_ia X d_T_has_15,
  qq_iln X 1 rfl d_T_has_16,
  qq_icne X 32 (by decide) d_T_has_17,
  qq_aln X 0 rfl d_T_has_20,
  qq_gf X 5 1 rfl (fun w h => List.mem_cons_of_mem _ (inE_T w h)) (by decide) (List.mem_cons_of_mem _ mw_48) d_T_has_21,
  qq_iln X 3 rfl d_T_has_24,
  qq_ia X d_T_has_25,
  qq_iln X 2 rfl d_T_has_26,
  qq_icne X 32 (by decide) d_T_has_27,
  qq_ic X 1 (by decide) d_T_has_30,
  qq_rz Z d_T_has_31,
  qq_ii X 3 1 (by decide) (by decide) d_T_has_32,
  qq_go X 2 (by decide) d_T_has_35,
  qq_ic X 0 (by decide) d_T_has_38,
  qq_rz Z d_T_has_39, trivial⟩
/-- the table (b, c) is declared -/
def sp_has (σ : ev_M) (b c : Int32) : Prop := ∃ i : Nat, i < (σ 4 2).toNatClampNeg ∧ σ 5 i = b ∧ σ 6 i = c
def pre_T_has : List Value → ev_M → ev_L → Prop := fun as σ _ => ∃ (b c : Int32), as = [.ref 4, .int b, .int c] ∧ ∃ n : Nat, n ≤ 4 ∧ σ 4 2 = nI n
def post_T_has : List Value → ev_M → ev_L → Bool → ev_M → ev_L → Prop := fun as σ τ r σ' τ' => match as with
  | [_, .int b, .int c] => (r = true ↔ sp_has σ b c) ∧ σ' = σ ∧ τ' = τ
  | _ => False
set_option maxHeartbeats 4000000 in
set_option maxRecDepth 100000 in
theorem c_T_has (l : Launch) : ev_C ev_b l y_T_has ws_T_has rm_T_has evLY evCl pre_T_has post_T_has := by
  refine ev_methL (by decide) rfl ev_rop_b ?_ I_T_has (ok_T_has l) [2] 40 ?_
  · rintro _ σ τ ⟨b, c, rfl, h⟩
    exact Nat.le_of_ble_eq_true rfl
  · rintro _ σ τ ⟨b, c, rfl, n, hn, hd⟩
    refine ⟨fun μ pc lv st σ' τ' k => σ' = σ ∧ τ' = τ ∧ st = [] ∧ k = 0 ∧ ((pc = 0 ∧ μ = 10 ∧ lv = [.ref 4, .int b, .int c, .null]) ∨ (pc = 2 ∧ ∃ i : Nat, i ≤ n ∧ μ = n - i ∧ lv = [.ref 4, .int b, .int c, .int (nI i)] ∧ ∀ j, j < i → ¬ (σ 5 j = b ∧ σ 6 j = c))), ⟨10, rfl, rfl, rfl, rfl, Or.inl ⟨rfl, rfl, rfl⟩⟩, ?_⟩
    rintro μ pc lv st σ' τ' k ⟨rfl, rfl, rfl, rfl, ⟨rfl, rfl, rfl⟩ | ⟨rfl, i, hi, rfl, rfl, hj⟩⟩
    · exact ⟨n, by omega, rfl, rfl, rfl, rfl, Or.inr ⟨rfl, 0, Nat.zero_le _, rfl, rfl, fun j h => by omega⟩⟩
    · refine br_c (fun h => ?_) (fun h => ?_)
      · refine ⟨false, rfl, ?_, rfl, rfl⟩
        rw [hd] at h
        have hin : n ≤ i := (nI_leI (by omega) (by omega)).mp h
        constructor
        · intro q; cases q
        · rintro ⟨j, h1, h2⟩
          rw [hd, nI_clamp (by omega)] at h1
          exact absurd h2 (hj j (by omega))
      · rw [hd] at h
        have hin : i < n := Nat.not_le.mp fun q => h ((nI_leI (by omega) (by omega)).mpr q)
        have hv : vp_in (nI i) 4 := vp_in_nI (by omega) (by omega)
        have hcl : (nI i).toNatClampNeg = i := nI_clamp (by omega)
        have more : ¬ (σ' 5 (nI i).toNatClampNeg = b ∧ σ' 6 (nI i).toNatClampNeg = c) → ∃ μ', μ' < n - i ∧ σ' = σ' ∧ τ' = τ' ∧ ([] : List Value) = [] ∧ 0 = 0 ∧ ((2 = 0 ∧ μ' = 10 ∧ ([.ref 4, .int b, .int c, .int (nI i + 1)] : List Value) = [.ref 4, .int b, .int c, .null]) ∨ (2 = 2 ∧ ∃ i2 : Nat, i2 ≤ n ∧ μ' = n - i2 ∧ ([.ref 4, .int b, .int c, .int (nI i + 1)] : List Value) = [.ref 4, .int b, .int c, .int (nI i2)] ∧ ∀ j, j < i2 → ¬ (σ' 5 j = b ∧ σ' 6 j = c))) := by
          intro hne
          rw [hcl] at hne
          refine ⟨n - (i + 1), by omega, rfl, rfl, rfl, rfl, Or.inr ⟨rfl, i + 1, by omega, rfl, by rw [nI_1], fun j hj2 => ?_⟩⟩
          by_cases hji : j = i
          · rw [hji]; exact hne
          · exact hj j (by omega)
        refine ⟨hv, br_n (fun h2 => ?_) (fun h2 => ⟨hv, br_n (fun h3 => ?_) (fun h3 => ?_)⟩)⟩
        · exact more (fun q => h2 q.1)
        · exact more (fun q => h3 q.2)
        · exact ⟨true, rfl, ⟨fun _ => ⟨i, by rw [hd, nI_clamp (by omega)]; exact hin, by rw [← hcl]; exact h2, by rw [← hcl]; exact h3⟩, fun _ => rfl⟩, rfl, rfl⟩
