/-! Instruction -/
def sp_kind (x : Int32) : Int32 := if x < 4 ∨ (68 ≤ x ∧ x ≤ 70) ∨ x = 76 ∨ x = 77 then x else if 16 ≤ x ∧ x < 48 then (if x < 32 then 16 else 32) else if x < 68 ∨ (72 ≤ x ∧ x < 76) then x &&& (-4) else -1
def sp_len (k : Int32) : Int32 := if k < 48 then 1 else if k = 72 ∨ k = 77 then 3 else 2
def sp_reg (k x : Int32) : Int32 := if k = 16 ∨ k = 32 then x >>> (2 &&& 31) &&& 3 else x &&& 3
def y_I_kindOf : MethodName := ⟨RX1, "kindOf", "(I)I"⟩
def ws_I_kindOf : List Cond := .code y_I_kindOf prog_3_method_3_code 1 (some .int) :: evW
theorem d_I_kindOf_0 : decode prog_3_method_3_code 0 = .ok (.iload_n 0, 1) := by decide +kernel
theorem d_I_kindOf_1 : decode prog_3_method_3_code 1 = .ok (.iconst 4, 1) := by decide +kernel
theorem d_I_kindOf_2 : decode prog_3_method_3_code 2 = .ok (.if_icmp .lt 27, 3) := by decide +kernel
theorem d_I_kindOf_5 : decode prog_3_method_3_code 5 = .ok (.iload_n 0, 1) := by decide +kernel
theorem d_I_kindOf_6 : decode prog_3_method_3_code 6 = .ok (.bipush 68, 2) := by decide +kernel
theorem d_I_kindOf_8 : decode prog_3_method_3_code 8 = .ok (.if_icmp .lt 9, 3) := by decide +kernel
theorem d_I_kindOf_11 : decode prog_3_method_3_code 11 = .ok (.iload_n 0, 1) := by decide +kernel
theorem d_I_kindOf_12 : decode prog_3_method_3_code 12 = .ok (.bipush 70, 2) := by decide +kernel
theorem d_I_kindOf_14 : decode prog_3_method_3_code 14 = .ok (.if_icmp .le 15, 3) := by decide +kernel
theorem d_I_kindOf_17 : decode prog_3_method_3_code 17 = .ok (.iload_n 0, 1) := by decide +kernel
theorem d_I_kindOf_18 : decode prog_3_method_3_code 18 = .ok (.bipush 76, 2) := by decide +kernel
theorem d_I_kindOf_20 : decode prog_3_method_3_code 20 = .ok (.if_icmp .eq 9, 3) := by decide +kernel
theorem d_I_kindOf_23 : decode prog_3_method_3_code 23 = .ok (.iload_n 0, 1) := by decide +kernel
theorem d_I_kindOf_24 : decode prog_3_method_3_code 24 = .ok (.bipush 77, 2) := by decide +kernel
theorem d_I_kindOf_26 : decode prog_3_method_3_code 26 = .ok (.if_icmp .ne 5, 3) := by decide +kernel
theorem d_I_kindOf_29 : decode prog_3_method_3_code 29 = .ok (.iload_n 0, 1) := by decide +kernel
theorem d_I_kindOf_30 : decode prog_3_method_3_code 30 = .ok (.ireturn, 1) := by decide +kernel
theorem d_I_kindOf_31 : decode prog_3_method_3_code 31 = .ok (.iload_n 0, 1) := by decide +kernel
theorem d_I_kindOf_32 : decode prog_3_method_3_code 32 = .ok (.bipush 16, 2) := by decide +kernel
theorem d_I_kindOf_34 : decode prog_3_method_3_code 34 = .ok (.if_icmp .lt 23, 3) := by decide +kernel
theorem d_I_kindOf_37 : decode prog_3_method_3_code 37 = .ok (.iload_n 0, 1) := by decide +kernel
theorem d_I_kindOf_38 : decode prog_3_method_3_code 38 = .ok (.bipush 48, 2) := by decide +kernel
theorem d_I_kindOf_40 : decode prog_3_method_3_code 40 = .ok (.if_icmp .ge 17, 3) := by decide +kernel
theorem d_I_kindOf_43 : decode prog_3_method_3_code 43 = .ok (.iload_n 0, 1) := by decide +kernel
theorem d_I_kindOf_44 : decode prog_3_method_3_code 44 = .ok (.bipush 32, 2) := by decide +kernel
theorem d_I_kindOf_46 : decode prog_3_method_3_code 46 = .ok (.if_icmp .ge 8, 3) := by decide +kernel
theorem d_I_kindOf_49 : decode prog_3_method_3_code 49 = .ok (.bipush 16, 2) := by decide +kernel
theorem d_I_kindOf_51 : decode prog_3_method_3_code 51 = .ok (.goto 5, 3) := by decide +kernel
theorem d_I_kindOf_54 : decode prog_3_method_3_code 54 = .ok (.bipush 32, 2) := by decide +kernel
theorem d_I_kindOf_56 : decode prog_3_method_3_code 56 = .ok (.ireturn, 1) := by decide +kernel
theorem d_I_kindOf_57 : decode prog_3_method_3_code 57 = .ok (.iload_n 0, 1) := by decide +kernel
theorem d_I_kindOf_58 : decode prog_3_method_3_code 58 = .ok (.bipush 68, 2) := by decide +kernel
theorem d_I_kindOf_60 : decode prog_3_method_3_code 60 = .ok (.if_icmp .lt 15, 3) := by decide +kernel
theorem d_I_kindOf_63 : decode prog_3_method_3_code 63 = .ok (.iload_n 0, 1) := by decide +kernel
theorem d_I_kindOf_64 : decode prog_3_method_3_code 64 = .ok (.bipush 72, 2) := by decide +kernel
theorem d_I_kindOf_66 : decode prog_3_method_3_code 66 = .ok (.if_icmp .lt 14, 3) := by decide +kernel
theorem d_I_kindOf_69 : decode prog_3_method_3_code 69 = .ok (.iload_n 0, 1) := by decide +kernel
theorem d_I_kindOf_70 : decode prog_3_method_3_code 70 = .ok (.bipush 76, 2) := by decide +kernel
theorem d_I_kindOf_72 : decode prog_3_method_3_code 72 = .ok (.if_icmp .ge 8, 3) := by decide +kernel
theorem d_I_kindOf_75 : decode prog_3_method_3_code 75 = .ok (.iload_n 0, 1) := by decide +kernel
theorem d_I_kindOf_76 : decode prog_3_method_3_code 76 = .ok (.bipush (-4), 2) := by decide +kernel
theorem d_I_kindOf_78 : decode prog_3_method_3_code 78 = .ok (.iand, 1) := by decide +kernel
theorem d_I_kindOf_79 : decode prog_3_method_3_code 79 = .ok (.ireturn, 1) := by decide +kernel
theorem d_I_kindOf_80 : decode prog_3_method_3_code 80 = .ok (.iconst (-1), 1) := by decide +kernel
theorem d_I_kindOf_81 : decode prog_3_method_3_code 81 = .ok (.ireturn, 1) := by decide +kernel
def I_I_kindOf (P : Int32 → ev_M → ev_L → Prop) : List (Nat × ev_T) := [(0, tt_il 0 1),
  (1, tt_k 4 2),
  (2, tt_iclt 29 5),
  (5, tt_il 0 6),
  (6, tt_k 68 8),
  (8, tt_iclt 17 11),
  (11, tt_il 0 12),
  (12, tt_k 70 14),
  (14, tt_icle 29 17),
  (17, tt_il 0 18),
  (18, tt_k 76 20),
  (20, tt_iceq 29 23),
  (23, tt_il 0 24),
  (24, tt_k 77 26),
  (26, tt_icne 31 29),
  (29, tt_il 0 30),
  (30, tt_ri P),
  (31, tt_il 0 32),
  (32, tt_k 16 34),
  (34, tt_iclt 57 37),
  (37, tt_il 0 38),
  (38, tt_k 48 40),
  (40, tt_icge 57 43),
  (43, tt_il 0 44),
  (44, tt_k 32 46),
  (46, tt_icge 54 49),
  (49, tt_k 16 51),
  (51, tt_go 56),
  (54, tt_k 32 56),
  (56, tt_ri P),
  (57, tt_il 0 58),
  (58, tt_k 68 60),
  (60, tt_iclt 75 63),
  (63, tt_il 0 64),
  (64, tt_k 72 66),
  (66, tt_iclt 80 69),
  (69, tt_il 0 70),
  (70, tt_k 76 72),
  (72, tt_icge 80 75),
  (75, tt_il 0 76),
  (76, tt_k (-4) 78),
  (78, tt_iand 79),
  (79, tt_ri P),
  (80, tt_k (-1) 81),
  (81, tt_ri P)]
abbrev rm_I_kindOf : Room := { frames := 0, cells := 0, slots := 0, locals := 0 }
set_option maxRecDepth 20000 in
theorem ok_I_kindOf (l : Launch) (J : ev_K) (P : Int32 → ev_M → ev_L → Prop) (X : ev_X l rm_I_kindOf evLY evCl ws_I_kindOf prog_3_method_3_code 1 y_I_kindOf.cls J) (Z : ev_Z J prog_3_method_3_code .ireturn ev_i P) : ev_oks J (I_I_kindOf P) :=
  ⟨qq_iln X 0 rfl d_I_kindOf_0,
  qq_ic X 4 (by decide) d_I_kindOf_1,
  qq_iclt X 29 (by decide) d_I_kindOf_2,
  qq_iln X 0 rfl d_I_kindOf_5,
  qq_bp X 68 (by decide) d_I_kindOf_6,
  qq_iclt X 17 (by decide) d_I_kindOf_8,
  qq_iln X 0 rfl d_I_kindOf_11,
  qq_bp X 70 (by decide) d_I_kindOf_12,
  qq_icle X 29 (by decide) d_I_kindOf_14,
  qq_iln X 0 rfl d_I_kindOf_17,
  qq_bp X 76 (by decide) d_I_kindOf_18,
  qq_iceq X 29 (by decide) d_I_kindOf_20,
  qq_iln X 0 rfl d_I_kindOf_23,
  qq_bp X 77 (by decide) d_I_kindOf_24,
  qq_icne X 31 (by decide) d_I_kindOf_26,
  qq_iln X 0 rfl d_I_kindOf_29,
  qq_ri Z d_I_kindOf_30,
  qq_iln X 0 rfl d_I_kindOf_31,
  qq_bp X 16 (by decide) d_I_kindOf_32,
  qq_iclt X 57 (by decide) d_I_kindOf_34,
  qq_iln X 0 rfl d_I_kindOf_37,
  qq_bp X 48 (by decide) d_I_kindOf_38,
  qq_icge X 57 (by decide) d_I_kindOf_40,
  qq_iln X 0 rfl d_I_kindOf_43,
  qq_bp X 32 (by decide) d_I_kindOf_44,
  qq_icge X 54 (by decide) d_I_kindOf_46,
  qq_bp X 16 (by decide) d_I_kindOf_49,
  qq_go X 56 (by decide) d_I_kindOf_51,
  qq_bp X 32 (by decide) d_I_kindOf_54,
  qq_ri Z d_I_kindOf_56,
  qq_iln X 0 rfl d_I_kindOf_57,
  qq_bp X 68 (by decide) d_I_kindOf_58,
  qq_iclt X 75 (by decide) d_I_kindOf_60,
  qq_iln X 0 rfl d_I_kindOf_63,
  qq_bp X 72 (by decide) d_I_kindOf_64,
  qq_iclt X 80 (by decide) d_I_kindOf_66,
  qq_iln X 0 rfl d_I_kindOf_69,
  qq_bp X 76 (by decide) d_I_kindOf_70,
  qq_icge X 80 (by decide) d_I_kindOf_72,
  qq_iln X 0 rfl d_I_kindOf_75,
  qq_bp X (-4) (by decide) d_I_kindOf_76,
  qq_iand X d_I_kindOf_78,
  qq_ri Z d_I_kindOf_79,
  qq_ic X (-1) (by decide) d_I_kindOf_80,
  qq_ri Z d_I_kindOf_81, trivial⟩
def pre_I_kindOf : List Value → ev_M → ev_L → Prop := fun as _ _ => ∃ x : Int32, as = [.int x]
def post_I_kindOf : List Value → ev_M → ev_L → Int32 → ev_M → ev_L → Prop := fun as σ τ r σ' τ' => match as with
  | [.int x] => r = sp_kind x ∧ σ' = σ ∧ τ' = τ
  | _ => False
set_option maxHeartbeats 4000000 in
set_option maxRecDepth 100000 in
theorem c_I_kindOf (l : Launch) : ev_C ev_i l y_I_kindOf ws_I_kindOf rm_I_kindOf evLY evCl pre_I_kindOf post_I_kindOf := by
  refine ev_meth0 (by decide) rfl ev_rop_i ?_ I_I_kindOf (ok_I_kindOf l) 60 ?_
  · rintro _ σ τ ⟨x, rfl⟩
    exact Nat.le_refl _
  · rintro _ σ τ ⟨x, rfl⟩
    repeat' first | refine br_c (fun _ => ?_) (fun _ => ?_) | refine br_n (fun _ => ?_) (fun _ => ?_)
    all_goals
      refine ⟨?_, rfl, rfl⟩
      unfold sp_kind
      repeat' split
      all_goals first | rfl | (exfalso; simp only [Int32.lt_iff_toInt_lt, Int32.le_iff_toInt_le, ← Int32.toInt_inj, Int32.reduceToInt] at *; omega)
def y_I_length : MethodName := ⟨RX1, "length", "()I"⟩
def ws_I_length : List Cond := .code y_I_length prog_3_method_4_code 1 (some .int) :: evW
theorem d_I_length_0 : decode prog_3_method_4_code 0 = .ok (.aload_n 0, 1) := by decide +kernel
theorem d_I_length_1 : decode prog_3_method_4_code 1 = .ok (.getfield 25, 3) := by decide +kernel
theorem d_I_length_4 : decode prog_3_method_4_code 4 = .ok (.bipush 48, 2) := by decide +kernel
theorem d_I_length_6 : decode prog_3_method_4_code 6 = .ok (.if_icmp .ge 5, 3) := by decide +kernel
theorem d_I_length_9 : decode prog_3_method_4_code 9 = .ok (.iconst 1, 1) := by decide +kernel
theorem d_I_length_10 : decode prog_3_method_4_code 10 = .ok (.ireturn, 1) := by decide +kernel
theorem d_I_length_11 : decode prog_3_method_4_code 11 = .ok (.aload_n 0, 1) := by decide +kernel
theorem d_I_length_12 : decode prog_3_method_4_code 12 = .ok (.getfield 25, 3) := by decide +kernel
theorem d_I_length_15 : decode prog_3_method_4_code 15 = .ok (.bipush 72, 2) := by decide +kernel
theorem d_I_length_17 : decode prog_3_method_4_code 17 = .ok (.if_icmp .eq 12, 3) := by decide +kernel
theorem d_I_length_20 : decode prog_3_method_4_code 20 = .ok (.aload_n 0, 1) := by decide +kernel
theorem d_I_length_21 : decode prog_3_method_4_code 21 = .ok (.getfield 25, 3) := by decide +kernel
theorem d_I_length_24 : decode prog_3_method_4_code 24 = .ok (.bipush 77, 2) := by decide +kernel
theorem d_I_length_26 : decode prog_3_method_4_code 26 = .ok (.if_icmp .ne 7, 3) := by decide +kernel
theorem d_I_length_29 : decode prog_3_method_4_code 29 = .ok (.iconst 3, 1) := by decide +kernel
theorem d_I_length_30 : decode prog_3_method_4_code 30 = .ok (.goto 4, 3) := by decide +kernel
theorem d_I_length_33 : decode prog_3_method_4_code 33 = .ok (.iconst 2, 1) := by decide +kernel
theorem d_I_length_34 : decode prog_3_method_4_code 34 = .ok (.ireturn, 1) := by decide +kernel
def I_I_length (P : Int32 → ev_M → ev_L → Prop) : List (Nat × ev_T) := [(0, tt_al 0 1),
  (1, tt_gf evLY 1 2 4),
  (4, tt_k 48 6),
  (6, tt_icge 11 9),
  (9, tt_k 1 10),
  (10, tt_ri P),
  (11, tt_al 0 12),
  (12, tt_gf evLY 1 2 15),
  (15, tt_k 72 17),
  (17, tt_iceq 29 20),
  (20, tt_al 0 21),
  (21, tt_gf evLY 1 2 24),
  (24, tt_k 77 26),
  (26, tt_icne 33 29),
  (29, tt_k 3 30),
  (30, tt_go 34),
  (33, tt_k 2 34),
  (34, tt_ri P)]
abbrev rm_I_length : Room := { frames := 0, cells := 0, slots := 0, locals := 0 }
set_option maxRecDepth 20000 in
theorem ok_I_length (l : Launch) (J : ev_K) (P : Int32 → ev_M → ev_L → Prop) (X : ev_X l rm_I_length evLY evCl ws_I_length prog_3_method_4_code 1 y_I_length.cls J) (Z : ev_Z J prog_3_method_4_code .ireturn ev_i P) : ev_oks J (I_I_length P) :=
  ⟨qq_aln X 0 rfl d_I_length_0,
  qq_gf X 1 2 rfl (fun w h => List.mem_cons_of_mem _ (inE_I w h)) (by decide) (List.mem_cons_of_mem _ mw_72) d_I_length_1,
  qq_bp X 48 (by decide) d_I_length_4,
  qq_icge X 11 (by decide) d_I_length_6,
  qq_ic X 1 (by decide) d_I_length_9,
  qq_ri Z d_I_length_10,
  qq_aln X 0 rfl d_I_length_11,
  qq_gf X 1 2 rfl (fun w h => List.mem_cons_of_mem _ (inE_I w h)) (by decide) (List.mem_cons_of_mem _ mw_72) d_I_length_12,
  qq_bp X 72 (by decide) d_I_length_15,
  qq_iceq X 29 (by decide) d_I_length_17,
  qq_aln X 0 rfl d_I_length_20,
  qq_gf X 1 2 rfl (fun w h => List.mem_cons_of_mem _ (inE_I w h)) (by decide) (List.mem_cons_of_mem _ mw_72) d_I_length_21,
  qq_bp X 77 (by decide) d_I_length_24,
  qq_icne X 33 (by decide) d_I_length_26,
  qq_ic X 3 (by decide) d_I_length_29,
  qq_go X 34 (by decide) d_I_length_30,
  qq_ic X 2 (by decide) d_I_length_33,
  qq_ri Z d_I_length_34, trivial⟩
def pre_I_length : List Value → ev_M → ev_L → Prop := fun as _ _ => ∃ k : Nat, as = [.ref k] ∧ (k = 9 ∨ k = 19 ∨ k = 24)
def post_I_length : List Value → ev_M → ev_L → Int32 → ev_M → ev_L → Prop := fun as σ τ r σ' τ' => match as with
  | [.ref k] => r = sp_len (σ k 2) ∧ σ' = σ ∧ τ' = τ
  | _ => False
set_option maxHeartbeats 4000000 in
set_option maxRecDepth 100000 in
theorem c_I_length (l : Launch) : ev_C ev_i l y_I_length ws_I_length rm_I_length evLY evCl pre_I_length post_I_length := by
  refine ev_meth0 (by decide) rfl ev_rop_i ?_ I_I_length (ok_I_length l) 60 ?_
  · rintro _ σ τ ⟨k, rfl, hk⟩
    exact Nat.le_refl _
  · rintro _ σ τ ⟨k, rfl, rfl | rfl | rfl⟩
    all_goals
      repeat' first | refine br_c (fun _ => ?_) (fun _ => ?_) | refine br_n (fun _ => ?_) (fun _ => ?_)
      all_goals
        refine ⟨?_, rfl, rfl⟩
        simp_all [sp_len, Int32.not_lt, Int32.not_le]
def y_I_behind : MethodName := ⟨RX1, "behind", "()I"⟩
def ws_I_behind : List Cond := .code y_I_behind prog_3_method_5_code 1 (some .int) :: evW
theorem d_I_behind_0 : decode prog_3_method_5_code 0 = .ok (.aload_n 0, 1) := by decide +kernel
theorem d_I_behind_1 : decode prog_3_method_5_code 1 = .ok (.getfield 7, 3) := by decide +kernel
theorem d_I_behind_4 : decode prog_3_method_5_code 4 = .ok (.aload_n 0, 1) := by decide +kernel
theorem d_I_behind_5 : decode prog_3_method_5_code 5 = .ok (.invokevirtual 38, 3) := by decide +kernel
theorem d_I_behind_8 : decode prog_3_method_5_code 8 = .ok (.iadd, 1) := by decide +kernel
theorem d_I_behind_9 : decode prog_3_method_5_code 9 = .ok (.ireturn, 1) := by decide +kernel
def I_I_behind (P : Int32 → ev_M → ev_L → Prop) : List (Nat × ev_T) := [(0, tt_al 0 1),
  (1, tt_gf evLY 1 0 4),
  (4, tt_al 0 5),
  (5, tt_cV evLY 1 0 ev_i pre_I_length post_I_length 8),
  (8, tt_iadd 9),
  (9, tt_ri P)]
abbrev rm_I_behind : Room := { frames := 1, cells := 0, slots := 0, locals := 32 }
set_option maxRecDepth 20000 in
theorem ok_I_behind (l : Launch) (J : ev_K) (P : Int32 → ev_M → ev_L → Prop) (X : ev_X l rm_I_behind evLY evCl ws_I_behind prog_3_method_5_code 1 y_I_behind.cls J) (Z : ev_Z J prog_3_method_5_code .ireturn ev_i P) : ev_oks J (I_I_behind P) :=
  ⟨qq_aln X 0 rfl d_I_behind_0,
  qq_gf X 1 0 rfl (fun w h => List.mem_cons_of_mem _ (inE_I w h)) (by decide) (List.mem_cons_of_mem _ mw_69) d_I_behind_1,
  qq_aln X 0 rfl d_I_behind_4,
  qq_cV X 1 rfl (c_I_length l) (fun hts => cwV 0 hts (evGV (mw_433) (mw_434) (mw_435) (mw_5) (mw_436)) rfl rfl rfl (by decide +kernel) ⟨Nat.le_of_ble_eq_true rfl, Nat.le_of_ble_eq_true rfl⟩) d_I_behind_5,
  qq_iadd X d_I_behind_8,
  qq_ri Z d_I_behind_9, trivial⟩
def pre_I_behind : List Value → ev_M → ev_L → Prop := pre_I_length
def post_I_behind : List Value → ev_M → ev_L → Int32 → ev_M → ev_L → Prop := fun as σ τ r σ' τ' => match as with
  | [.ref k] => r = σ k 0 + sp_len (σ k 2) ∧ σ' = σ ∧ τ' = τ
  | _ => False
set_option maxHeartbeats 4000000 in
set_option maxRecDepth 100000 in
theorem c_I_behind (l : Launch) : ev_C ev_i l y_I_behind ws_I_behind rm_I_behind evLY evCl pre_I_behind post_I_behind := by
  refine ev_meth0 (by decide) rfl ev_rop_i ?_ I_I_behind (ok_I_behind l) 60 ?_
  · rintro _ σ τ ⟨k, rfl, hk⟩
    exact Nat.le_refl _
  · rintro _ σ τ ⟨k, rfl, rfl | rfl | rfl⟩
    all_goals
      refine ⟨⟨_, rfl, by decide⟩, ?_⟩
      rintro _ σ τ ⟨rfl, rfl, rfl⟩
      exact ⟨rfl, rfl, rfl⟩
def y_I_branchTarget : MethodName := ⟨RX1, "branchTarget", "()I"⟩
def ws_I_branchTarget : List Cond := .code y_I_branchTarget prog_3_method_6_code 1 (some .int) :: evW
theorem d_I_branchTarget_0 : decode prog_3_method_6_code 0 = .ok (.aload_n 0, 1) := by decide +kernel
theorem d_I_branchTarget_1 : decode prog_3_method_6_code 1 = .ok (.invokevirtual 28, 3) := by decide +kernel
theorem d_I_branchTarget_4 : decode prog_3_method_6_code 4 = .ok (.aload_n 0, 1) := by decide +kernel
theorem d_I_branchTarget_5 : decode prog_3_method_6_code 5 = .ok (.getfield 32, 3) := by decide +kernel
theorem d_I_branchTarget_8 : decode prog_3_method_6_code 8 = .ok (.i2b, 1) := by decide +kernel
theorem d_I_branchTarget_9 : decode prog_3_method_6_code 9 = .ok (.iadd, 1) := by decide +kernel
theorem d_I_branchTarget_10 : decode prog_3_method_6_code 10 = .ok (.ireturn, 1) := by decide +kernel
def I_I_branchTarget (P : Int32 → ev_M → ev_L → Prop) : List (Nat × ev_T) := [(0, tt_al 0 1),
  (1, tt_cV evLY 1 0 ev_i pre_I_behind post_I_behind 4),
  (4, tt_al 0 5),
  (5, tt_gf evLY 1 3 8),
  (8, tt_i2b 9),
  (9, tt_iadd 10),
  (10, tt_ri P)]
abbrev rm_I_branchTarget : Room := { frames := 2, cells := 0, slots := 0, locals := 64 }
set_option maxRecDepth 20000 in
theorem ok_I_branchTarget (l : Launch) (J : ev_K) (P : Int32 → ev_M → ev_L → Prop) (X : ev_X l rm_I_branchTarget evLY evCl ws_I_branchTarget prog_3_method_6_code 1 y_I_branchTarget.cls J) (Z : ev_Z J prog_3_method_6_code .ireturn ev_i P) : ev_oks J (I_I_branchTarget P) :=
  ⟨qq_aln X 0 rfl d_I_branchTarget_0,
  qq_cV X 1 rfl (c_I_behind l) (fun hts => cwV 0 hts (evGV (mw_429) (mw_430) (mw_431) (mw_5) (mw_432)) rfl rfl rfl (by decide +kernel) ⟨Nat.le_of_ble_eq_true rfl, Nat.le_of_ble_eq_true rfl⟩) d_I_branchTarget_1,
  qq_aln X 0 rfl d_I_branchTarget_4,
  qq_gf X 1 3 rfl (fun w h => List.mem_cons_of_mem _ (inE_I w h)) (by decide) (List.mem_cons_of_mem _ mw_76) d_I_branchTarget_5,
  qq_i2b X d_I_branchTarget_8,
  qq_iadd X d_I_branchTarget_9,
  qq_ri Z d_I_branchTarget_10, trivial⟩
def pre_I_branchTarget : List Value → ev_M → ev_L → Prop := pre_I_length
def post_I_branchTarget : List Value → ev_M → ev_L → Int32 → ev_M → ev_L → Prop := fun as σ τ r σ' τ' => match as with
  | [.ref k] => r = σ k 0 + sp_len (σ k 2) + (σ k 3).toInt8.toInt32 ∧ σ' = σ ∧ τ' = τ
  | _ => False
set_option maxHeartbeats 4000000 in
set_option maxRecDepth 100000 in
theorem c_I_branchTarget (l : Launch) : ev_C ev_i l y_I_branchTarget ws_I_branchTarget rm_I_branchTarget evLY evCl pre_I_branchTarget post_I_branchTarget := by
  refine ev_meth0 (by decide) rfl ev_rop_i ?_ I_I_branchTarget (ok_I_branchTarget l) 60 ?_
  · rintro _ σ τ ⟨k, rfl, hk⟩
    exact Nat.le_refl _
  · rintro _ σ τ ⟨k, rfl, rfl | rfl | rfl⟩
    all_goals
      refine ⟨⟨_, rfl, by decide⟩, ?_⟩
      rintro _ σ τ ⟨rfl, rfl, rfl⟩
      exact ⟨rfl, rfl, rfl⟩
def y_I_registerNumber : MethodName := ⟨RX1, "registerNumber", "()I"⟩
def ws_I_registerNumber : List Cond := .code y_I_registerNumber prog_3_method_7_code 1 (some .int) :: evW
theorem d_I_registerNumber_0 : decode prog_3_method_7_code 0 = .ok (.aload_n 0, 1) := by decide +kernel
theorem d_I_registerNumber_1 : decode prog_3_method_7_code 1 = .ok (.getfield 25, 3) := by decide +kernel
theorem d_I_registerNumber_4 : decode prog_3_method_7_code 4 = .ok (.bipush 16, 2) := by decide +kernel
theorem d_I_registerNumber_6 : decode prog_3_method_7_code 6 = .ok (.if_icmp .eq 12, 3) := by decide +kernel
theorem d_I_registerNumber_9 : decode prog_3_method_7_code 9 = .ok (.aload_n 0, 1) := by decide +kernel
theorem d_I_registerNumber_10 : decode prog_3_method_7_code 10 = .ok (.getfield 25, 3) := by decide +kernel
theorem d_I_registerNumber_13 : decode prog_3_method_7_code 13 = .ok (.bipush 32, 2) := by decide +kernel
theorem d_I_registerNumber_15 : decode prog_3_method_7_code 15 = .ok (.if_icmp .ne 14, 3) := by decide +kernel
theorem d_I_registerNumber_18 : decode prog_3_method_7_code 18 = .ok (.aload_n 0, 1) := by decide +kernel
theorem d_I_registerNumber_19 : decode prog_3_method_7_code 19 = .ok (.getfield 19, 3) := by decide +kernel
theorem d_I_registerNumber_22 : decode prog_3_method_7_code 22 = .ok (.iconst 2, 1) := by decide +kernel
theorem d_I_registerNumber_23 : decode prog_3_method_7_code 23 = .ok (.ishr, 1) := by decide +kernel
theorem d_I_registerNumber_24 : decode prog_3_method_7_code 24 = .ok (.iconst 3, 1) := by decide +kernel
theorem d_I_registerNumber_25 : decode prog_3_method_7_code 25 = .ok (.iand, 1) := by decide +kernel
theorem d_I_registerNumber_26 : decode prog_3_method_7_code 26 = .ok (.goto 9, 3) := by decide +kernel
theorem d_I_registerNumber_29 : decode prog_3_method_7_code 29 = .ok (.aload_n 0, 1) := by decide +kernel
theorem d_I_registerNumber_30 : decode prog_3_method_7_code 30 = .ok (.getfield 19, 3) := by decide +kernel
theorem d_I_registerNumber_33 : decode prog_3_method_7_code 33 = .ok (.iconst 3, 1) := by decide +kernel
theorem d_I_registerNumber_34 : decode prog_3_method_7_code 34 = .ok (.iand, 1) := by decide +kernel
theorem d_I_registerNumber_35 : decode prog_3_method_7_code 35 = .ok (.ireturn, 1) := by decide +kernel
def I_I_registerNumber (P : Int32 → ev_M → ev_L → Prop) : List (Nat × ev_T) := [(0, tt_al 0 1),
  (1, tt_gf evLY 1 2 4),
  (4, tt_k 16 6),
  (6, tt_iceq 18 9),
  (9, tt_al 0 10),
  (10, tt_gf evLY 1 2 13),
  (13, tt_k 32 15),
  (15, tt_icne 29 18),
  (18, tt_al 0 19),
  (19, tt_gf evLY 1 1 22),
  (22, tt_k 2 23),
  (23, tt_ishr 24),
  (24, tt_k 3 25),
  (25, tt_iand 26),
  (26, tt_go 35),
  (29, tt_al 0 30),
  (30, tt_gf evLY 1 1 33),
  (33, tt_k 3 34),
  (34, tt_iand 35),
  (35, tt_ri P)]
abbrev rm_I_registerNumber : Room := { frames := 0, cells := 0, slots := 0, locals := 0 }
set_option maxRecDepth 20000 in
theorem ok_I_registerNumber (l : Launch) (J : ev_K) (P : Int32 → ev_M → ev_L → Prop) (X : ev_X l rm_I_registerNumber evLY evCl ws_I_registerNumber prog_3_method_7_code 1 y_I_registerNumber.cls J) (Z : ev_Z J prog_3_method_7_code .ireturn ev_i P) : ev_oks J (I_I_registerNumber P) :=
  ⟨qq_aln X 0 rfl d_I_registerNumber_0,
  qq_gf X 1 2 rfl (fun w h => List.mem_cons_of_mem _ (inE_I w h)) (by decide) (List.mem_cons_of_mem _ mw_72) d_I_registerNumber_1,
  qq_bp X 16 (by decide) d_I_registerNumber_4,
  qq_iceq X 18 (by decide) d_I_registerNumber_6,
  qq_aln X 0 rfl d_I_registerNumber_9,
  qq_gf X 1 2 rfl (fun w h => List.mem_cons_of_mem _ (inE_I w h)) (by decide) (List.mem_cons_of_mem _ mw_72) d_I_registerNumber_10,
  qq_bp X 32 (by decide) d_I_registerNumber_13,
  qq_icne X 29 (by decide) d_I_registerNumber_15,
  qq_aln X 0 rfl d_I_registerNumber_18,
  qq_gf X 1 1 rfl (fun w h => List.mem_cons_of_mem _ (inE_I w h)) (by decide) (List.mem_cons_of_mem _ mw_70) d_I_registerNumber_19,
  qq_ic X 2 (by decide) d_I_registerNumber_22,
  qq_ishr X d_I_registerNumber_23,
  qq_ic X 3 (by decide) d_I_registerNumber_24,
  qq_iand X d_I_registerNumber_25,
  qq_go X 35 (by decide) d_I_registerNumber_26,
  qq_aln X 0 rfl d_I_registerNumber_29,
  qq_gf X 1 1 rfl (fun w h => List.mem_cons_of_mem _ (inE_I w h)) (by decide) (List.mem_cons_of_mem _ mw_70) d_I_registerNumber_30,
  qq_ic X 3 (by decide) d_I_registerNumber_33,
  qq_iand X d_I_registerNumber_34,
  qq_ri Z d_I_registerNumber_35, trivial⟩
def pre_I_registerNumber : List Value → ev_M → ev_L → Prop := pre_I_length
def post_I_registerNumber : List Value → ev_M → ev_L → Int32 → ev_M → ev_L → Prop := fun as σ τ r σ' τ' => match as with
  | [.ref k] => r = sp_reg (σ k 2) (σ k 1) ∧ σ' = σ ∧ τ' = τ
  | _ => False
set_option maxHeartbeats 4000000 in
set_option maxRecDepth 100000 in
theorem c_I_registerNumber (l : Launch) : ev_C ev_i l y_I_registerNumber ws_I_registerNumber rm_I_registerNumber evLY evCl pre_I_registerNumber post_I_registerNumber := by
  refine ev_meth0 (by decide) rfl ev_rop_i ?_ I_I_registerNumber (ok_I_registerNumber l) 60 ?_
  · rintro _ σ τ ⟨k, rfl, hk⟩
    exact Nat.le_refl _
  · rintro _ σ τ ⟨k, rfl, rfl | rfl | rfl⟩
    all_goals
      repeat' first | refine br_c (fun _ => ?_) (fun _ => ?_) | refine br_n (fun _ => ?_) (fun _ => ?_)
      all_goals
        refine ⟨?_, rfl, rfl⟩
        simp_all [sp_reg]
def y_I_otherRegister : MethodName := ⟨RX1, "otherRegister", "()I"⟩
def ws_I_otherRegister : List Cond := .code y_I_otherRegister prog_3_method_8_code 1 (some .int) :: evW
theorem d_I_otherRegister_0 : decode prog_3_method_8_code 0 = .ok (.aload_n 0, 1) := by decide +kernel
theorem d_I_otherRegister_1 : decode prog_3_method_8_code 1 = .ok (.getfield 19, 3) := by decide +kernel
theorem d_I_otherRegister_4 : decode prog_3_method_8_code 4 = .ok (.iconst 3, 1) := by decide +kernel
theorem d_I_otherRegister_5 : decode prog_3_method_8_code 5 = .ok (.iand, 1) := by decide +kernel
theorem d_I_otherRegister_6 : decode prog_3_method_8_code 6 = .ok (.ireturn, 1) := by decide +kernel
def I_I_otherRegister (P : Int32 → ev_M → ev_L → Prop) : List (Nat × ev_T) := [(0, tt_al 0 1),
  (1, tt_gf evLY 1 1 4),
  (4, tt_k 3 5),
  (5, tt_iand 6),
  (6, tt_ri P)]
abbrev rm_I_otherRegister : Room := { frames := 0, cells := 0, slots := 0, locals := 0 }
set_option maxRecDepth 20000 in
theorem ok_I_otherRegister (l : Launch) (J : ev_K) (P : Int32 → ev_M → ev_L → Prop) (X : ev_X l rm_I_otherRegister evLY evCl ws_I_otherRegister prog_3_method_8_code 1 y_I_otherRegister.cls J) (Z : ev_Z J prog_3_method_8_code .ireturn ev_i P) : ev_oks J (I_I_otherRegister P) :=
  ⟨qq_aln X 0 rfl d_I_otherRegister_0,
  qq_gf X 1 1 rfl (fun w h => List.mem_cons_of_mem _ (inE_I w h)) (by decide) (List.mem_cons_of_mem _ mw_70) d_I_otherRegister_1,
  qq_ic X 3 (by decide) d_I_otherRegister_4,
  qq_iand X d_I_otherRegister_5,
  qq_ri Z d_I_otherRegister_6, trivial⟩
def pre_I_otherRegister : List Value → ev_M → ev_L → Prop := pre_I_length
def post_I_otherRegister : List Value → ev_M → ev_L → Int32 → ev_M → ev_L → Prop := fun as σ τ r σ' τ' => match as with
  | [.ref k] => r = σ k 1 &&& 3 ∧ σ' = σ ∧ τ' = τ
  | _ => False
set_option maxHeartbeats 4000000 in
set_option maxRecDepth 100000 in
theorem c_I_otherRegister (l : Launch) : ev_C ev_i l y_I_otherRegister ws_I_otherRegister rm_I_otherRegister evLY evCl pre_I_otherRegister post_I_otherRegister := by
  refine ev_meth0 (by decide) rfl ev_rop_i ?_ I_I_otherRegister (ok_I_otherRegister l) 60 ?_
  · rintro _ σ τ ⟨k, rfl, hk⟩
    exact Nat.le_refl _
  · rintro _ σ τ ⟨k, rfl, rfl | rfl | rfl⟩
    all_goals exact ⟨rfl, rfl, rfl⟩
def sp_isC (k : Int32) : Bool := decide (k = 60 ∨ k = 64)
def sp_ends (k : Int32) : Bool := decide (k = 0 ∨ k = 3 ∨ (60 ≤ k ∧ k ≤ 72))
def sp_isR (k : Int32) : Bool := decide (k = 2 ∨ k = 76 ∨ k = 77)
def y_I_isConditional : MethodName := ⟨RX1, "isConditional", "()Z"⟩
def ws_I_isConditional : List Cond := .code y_I_isConditional prog_3_method_9_code 1 (some .boolean) :: evW
theorem d_I_isConditional_0 : decode prog_3_method_9_code 0 = .ok (.aload_n 0, 1) := by decide +kernel
theorem d_I_isConditional_1 : decode prog_3_method_9_code 1 = .ok (.getfield 25, 3) := by decide +kernel
theorem d_I_isConditional_4 : decode prog_3_method_9_code 4 = .ok (.bipush 60, 2) := by decide +kernel
theorem d_I_isConditional_6 : decode prog_3_method_9_code 6 = .ok (.if_icmp .eq 12, 3) := by decide +kernel
theorem d_I_isConditional_9 : decode prog_3_method_9_code 9 = .ok (.aload_n 0, 1) := by decide +kernel
theorem d_I_isConditional_10 : decode prog_3_method_9_code 10 = .ok (.getfield 25, 3) := by decide +kernel
theorem d_I_isConditional_13 : decode prog_3_method_9_code 13 = .ok (.bipush 64, 2) := by decide +kernel
theorem d_I_isConditional_15 : decode prog_3_method_9_code 15 = .ok (.if_icmp .ne 7, 3) := by decide +kernel
theorem d_I_isConditional_18 : decode prog_3_method_9_code 18 = .ok (.iconst 1, 1) := by decide +kernel
theorem d_I_isConditional_19 : decode prog_3_method_9_code 19 = .ok (.goto 4, 3) := by decide +kernel
theorem d_I_isConditional_22 : decode prog_3_method_9_code 22 = .ok (.iconst 0, 1) := by decide +kernel
theorem d_I_isConditional_23 : decode prog_3_method_9_code 23 = .ok (.ireturn, 1) := by decide +kernel
def I_I_isConditional (P : Bool → ev_M → ev_L → Prop) : List (Nat × ev_T) := [(0, tt_al 0 1),
  (1, tt_gf evLY 1 2 4),
  (4, tt_k 60 6),
  (6, tt_iceq 18 9),
  (9, tt_al 0 10),
  (10, tt_gf evLY 1 2 13),
  (13, tt_k 64 15),
  (15, tt_icne 22 18),
  (18, tt_k 1 19),
  (19, tt_go 23),
  (22, tt_k 0 23),
  (23, tt_rz P)]
abbrev rm_I_isConditional : Room := { frames := 0, cells := 0, slots := 0, locals := 0 }
set_option maxRecDepth 20000 in
theorem ok_I_isConditional (l : Launch) (J : ev_K) (P : Bool → ev_M → ev_L → Prop) (X : ev_X l rm_I_isConditional evLY evCl ws_I_isConditional prog_3_method_9_code 1 y_I_isConditional.cls J) (Z : ev_Z J prog_3_method_9_code .ireturn ev_b P) : ev_oks J (I_I_isConditional P) :=
  ⟨qq_aln X 0 rfl d_I_isConditional_0,
  qq_gf X 1 2 rfl (fun w h => List.mem_cons_of_mem _ (inE_I w h)) (by decide) (List.mem_cons_of_mem _ mw_72) d_I_isConditional_1,
  qq_bp X 60 (by decide) d_I_isConditional_4,
  qq_iceq X 18 (by decide) d_I_isConditional_6,
  qq_aln X 0 rfl d_I_isConditional_9,
  qq_gf X 1 2 rfl (fun w h => List.mem_cons_of_mem _ (inE_I w h)) (by decide) (List.mem_cons_of_mem _ mw_72) d_I_isConditional_10,
  qq_bp X 64 (by decide) d_I_isConditional_13,
  qq_icne X 22 (by decide) d_I_isConditional_15,
  qq_ic X 1 (by decide) d_I_isConditional_18,
  qq_go X 23 (by decide) d_I_isConditional_19,
  qq_ic X 0 (by decide) d_I_isConditional_22,
  qq_rz Z d_I_isConditional_23, trivial⟩
def pre_I_isConditional : List Value → ev_M → ev_L → Prop := pre_I_length
def post_I_isConditional : List Value → ev_M → ev_L → Bool → ev_M → ev_L → Prop := fun as σ τ r σ' τ' => match as with
  | [.ref k] => r = sp_isC (σ k 2) ∧ σ' = σ ∧ τ' = τ
  | _ => False
set_option maxHeartbeats 4000000 in
set_option maxRecDepth 100000 in
theorem c_I_isConditional (l : Launch) : ev_C ev_b l y_I_isConditional ws_I_isConditional rm_I_isConditional evLY evCl pre_I_isConditional post_I_isConditional := by
  refine ev_meth0 (by decide) rfl ev_rop_b ?_ I_I_isConditional (ok_I_isConditional l) 60 ?_
  · rintro _ σ τ ⟨k, rfl, hk⟩
    exact Nat.le_refl _
  · rintro _ σ τ ⟨k, rfl, rfl | rfl | rfl⟩
    all_goals
      repeat' first | refine br_c (fun _ => ?_) (fun _ => ?_) | refine br_n (fun _ => ?_) (fun _ => ?_)
      all_goals
        first
        | (refine ⟨true, rfl, ?_, rfl, rfl⟩; simp_all [sp_isC, Int32.not_lt, Int32.not_le]; done)
        | (refine ⟨false, rfl, ?_, rfl, rfl⟩; simp_all [sp_isC, Int32.not_lt, Int32.not_le]; done)
def y_I_endsBlock : MethodName := ⟨RX1, "endsBlock", "()Z"⟩
def ws_I_endsBlock : List Cond := .code y_I_endsBlock prog_3_method_10_code 1 (some .boolean) :: evW
theorem d_I_endsBlock_0 : decode prog_3_method_10_code 0 = .ok (.aload_n 0, 1) := by decide +kernel
theorem d_I_endsBlock_1 : decode prog_3_method_10_code 1 = .ok (.getfield 25, 3) := by decide +kernel
theorem d_I_endsBlock_4 : decode prog_3_method_10_code 4 = .ok (.ifCond .eq 29, 3) := by decide +kernel
theorem d_I_endsBlock_7 : decode prog_3_method_10_code 7 = .ok (.aload_n 0, 1) := by decide +kernel
theorem d_I_endsBlock_8 : decode prog_3_method_10_code 8 = .ok (.getfield 25, 3) := by decide +kernel
theorem d_I_endsBlock_11 : decode prog_3_method_10_code 11 = .ok (.iconst 3, 1) := by decide +kernel
theorem d_I_endsBlock_12 : decode prog_3_method_10_code 12 = .ok (.if_icmp .eq 21, 3) := by decide +kernel
theorem d_I_endsBlock_15 : decode prog_3_method_10_code 15 = .ok (.aload_n 0, 1) := by decide +kernel
theorem d_I_endsBlock_16 : decode prog_3_method_10_code 16 = .ok (.getfield 25, 3) := by decide +kernel
theorem d_I_endsBlock_19 : decode prog_3_method_10_code 19 = .ok (.bipush 60, 2) := by decide +kernel
theorem d_I_endsBlock_21 : decode prog_3_method_10_code 21 = .ok (.if_icmp .lt 16, 3) := by decide +kernel
theorem d_I_endsBlock_24 : decode prog_3_method_10_code 24 = .ok (.aload_n 0, 1) := by decide +kernel
theorem d_I_endsBlock_25 : decode prog_3_method_10_code 25 = .ok (.getfield 25, 3) := by decide +kernel
theorem d_I_endsBlock_28 : decode prog_3_method_10_code 28 = .ok (.bipush 72, 2) := by decide +kernel
theorem d_I_endsBlock_30 : decode prog_3_method_10_code 30 = .ok (.if_icmp .gt 7, 3) := by decide +kernel
theorem d_I_endsBlock_33 : decode prog_3_method_10_code 33 = .ok (.iconst 1, 1) := by decide +kernel
theorem d_I_endsBlock_34 : decode prog_3_method_10_code 34 = .ok (.goto 4, 3) := by decide +kernel
theorem d_I_endsBlock_37 : decode prog_3_method_10_code 37 = .ok (.iconst 0, 1) := by decide +kernel
theorem d_I_endsBlock_38 : decode prog_3_method_10_code 38 = .ok (.ireturn, 1) := by decide +kernel
def I_I_endsBlock (P : Bool → ev_M → ev_L → Prop) : List (Nat × ev_T) := [(0, tt_al 0 1),
  (1, tt_gf evLY 1 2 4),
  (4, tt_ifeq 33 7),
  (7, tt_al 0 8),
  (8, tt_gf evLY 1 2 11),
  (11, tt_k 3 12),
  (12, tt_iceq 33 15),
  (15, tt_al 0 16),
  (16, tt_gf evLY 1 2 19),
  (19, tt_k 60 21),
  (21, tt_iclt 37 24),
  (24, tt_al 0 25),
  (25, tt_gf evLY 1 2 28),
  (28, tt_k 72 30),
  (30, tt_icgt 37 33),
  (33, tt_k 1 34),
  (34, tt_go 38),
  (37, tt_k 0 38),
  (38, tt_rz P)]
abbrev rm_I_endsBlock : Room := { frames := 0, cells := 0, slots := 0, locals := 0 }
set_option maxRecDepth 20000 in
theorem ok_I_endsBlock (l : Launch) (J : ev_K) (P : Bool → ev_M → ev_L → Prop) (X : ev_X l rm_I_endsBlock evLY evCl ws_I_endsBlock prog_3_method_10_code 1 y_I_endsBlock.cls J) (Z : ev_Z J prog_3_method_10_code .ireturn ev_b P) : ev_oks J (I_I_endsBlock P) :=
  ⟨qq_aln X 0 rfl d_I_endsBlock_0,
  qq_gf X 1 2 rfl (fun w h => List.mem_cons_of_mem _ (inE_I w h)) (by decide) (List.mem_cons_of_mem _ mw_72) d_I_endsBlock_1,
  qq_ifeq X 33 (by decide) d_I_endsBlock_4,
  qq_aln X 0 rfl d_I_endsBlock_7,
  qq_gf X 1 2 rfl (fun w h => List.mem_cons_of_mem _ (inE_I w h)) (by decide) (List.mem_cons_of_mem _ mw_72) d_I_endsBlock_8,
  qq_ic X 3 (by decide) d_I_endsBlock_11,
  qq_iceq X 33 (by decide) d_I_endsBlock_12,
  qq_aln X 0 rfl d_I_endsBlock_15,
  qq_gf X 1 2 rfl (fun w h => List.mem_cons_of_mem _ (inE_I w h)) (by decide) (List.mem_cons_of_mem _ mw_72) d_I_endsBlock_16,
  qq_bp X 60 (by decide) d_I_endsBlock_19,
  qq_iclt X 37 (by decide) d_I_endsBlock_21,
  qq_aln X 0 rfl d_I_endsBlock_24,
  qq_gf X 1 2 rfl (fun w h => List.mem_cons_of_mem _ (inE_I w h)) (by decide) (List.mem_cons_of_mem _ mw_72) d_I_endsBlock_25,
  qq_bp X 72 (by decide) d_I_endsBlock_28,
  qq_icgt X 37 (by decide) d_I_endsBlock_30,
  qq_ic X 1 (by decide) d_I_endsBlock_33,
  qq_go X 38 (by decide) d_I_endsBlock_34,
  qq_ic X 0 (by decide) d_I_endsBlock_37,
  qq_rz Z d_I_endsBlock_38, trivial⟩
def pre_I_endsBlock : List Value → ev_M → ev_L → Prop := pre_I_length
def post_I_endsBlock : List Value → ev_M → ev_L → Bool → ev_M → ev_L → Prop := fun as σ τ r σ' τ' => match as with
  | [.ref k] => r = sp_ends (σ k 2) ∧ σ' = σ ∧ τ' = τ
  | _ => False
set_option maxHeartbeats 4000000 in
set_option maxRecDepth 100000 in
theorem c_I_endsBlock (l : Launch) : ev_C ev_b l y_I_endsBlock ws_I_endsBlock rm_I_endsBlock evLY evCl pre_I_endsBlock post_I_endsBlock := by
  refine ev_meth0 (by decide) rfl ev_rop_b ?_ I_I_endsBlock (ok_I_endsBlock l) 60 ?_
  · rintro _ σ τ ⟨k, rfl, hk⟩
    exact Nat.le_refl _
  · rintro _ σ τ ⟨k, rfl, rfl | rfl | rfl⟩
    all_goals
      repeat' first | refine br_c (fun _ => ?_) (fun _ => ?_) | refine br_n (fun _ => ?_) (fun _ => ?_)
      all_goals
        first
        | exact ⟨true, rfl, (decide_eq_true (by simp only [Int32.lt_iff_toInt_lt, Int32.le_iff_toInt_le, ← Int32.toInt_inj, Int32.reduceToInt] at *; omega)).symm, rfl, rfl⟩
        | exact ⟨false, rfl, (decide_eq_false (by simp only [Int32.lt_iff_toInt_lt, Int32.le_iff_toInt_le, ← Int32.toInt_inj, Int32.reduceToInt] at *; omega)).symm, rfl, rfl⟩
def y_I_isOfRewriting : MethodName := ⟨RX1, "isOfRewriting", "()Z"⟩
def ws_I_isOfRewriting : List Cond := .code y_I_isOfRewriting prog_3_method_11_code 1 (some .boolean) :: evW
theorem d_I_isOfRewriting_0 : decode prog_3_method_11_code 0 = .ok (.aload_n 0, 1) := by decide +kernel
theorem d_I_isOfRewriting_1 : decode prog_3_method_11_code 1 = .ok (.getfield 25, 3) := by decide +kernel
theorem d_I_isOfRewriting_4 : decode prog_3_method_11_code 4 = .ok (.iconst 2, 1) := by decide +kernel
theorem d_I_isOfRewriting_5 : decode prog_3_method_11_code 5 = .ok (.if_icmp .eq 21, 3) := by decide +kernel
theorem d_I_isOfRewriting_8 : decode prog_3_method_11_code 8 = .ok (.aload_n 0, 1) := by decide +kernel
theorem d_I_isOfRewriting_9 : decode prog_3_method_11_code 9 = .ok (.getfield 25, 3) := by decide +kernel
theorem d_I_isOfRewriting_12 : decode prog_3_method_11_code 12 = .ok (.bipush 76, 2) := by decide +kernel
theorem d_I_isOfRewriting_14 : decode prog_3_method_11_code 14 = .ok (.if_icmp .eq 12, 3) := by decide +kernel
theorem d_I_isOfRewriting_17 : decode prog_3_method_11_code 17 = .ok (.aload_n 0, 1) := by decide +kernel
theorem d_I_isOfRewriting_18 : decode prog_3_method_11_code 18 = .ok (.getfield 25, 3) := by decide +kernel
theorem d_I_isOfRewriting_21 : decode prog_3_method_11_code 21 = .ok (.bipush 77, 2) := by decide +kernel
theorem d_I_isOfRewriting_23 : decode prog_3_method_11_code 23 = .ok (.if_icmp .ne 7, 3) := by decide +kernel
theorem d_I_isOfRewriting_26 : decode prog_3_method_11_code 26 = .ok (.iconst 1, 1) := by decide +kernel
theorem d_I_isOfRewriting_27 : decode prog_3_method_11_code 27 = .ok (.goto 4, 3) := by decide +kernel
theorem d_I_isOfRewriting_30 : decode prog_3_method_11_code 30 = .ok (.iconst 0, 1) := by decide +kernel
theorem d_I_isOfRewriting_31 : decode prog_3_method_11_code 31 = .ok (.ireturn, 1) := by decide +kernel
def I_I_isOfRewriting (P : Bool → ev_M → ev_L → Prop) : List (Nat × ev_T) := [(0, tt_al 0 1),
  (1, tt_gf evLY 1 2 4),
  (4, tt_k 2 5),
  (5, tt_iceq 26 8),
  (8, tt_al 0 9),
  (9, tt_gf evLY 1 2 12),
  (12, tt_k 76 14),
  (14, tt_iceq 26 17),
  (17, tt_al 0 18),
  (18, tt_gf evLY 1 2 21),
  (21, tt_k 77 23),
  (23, tt_icne 30 26),
  (26, tt_k 1 27),
  (27, tt_go 31),
  (30, tt_k 0 31),
  (31, tt_rz P)]
abbrev rm_I_isOfRewriting : Room := { frames := 0, cells := 0, slots := 0, locals := 0 }
set_option maxRecDepth 20000 in
theorem ok_I_isOfRewriting (l : Launch) (J : ev_K) (P : Bool → ev_M → ev_L → Prop) (X : ev_X l rm_I_isOfRewriting evLY evCl ws_I_isOfRewriting prog_3_method_11_code 1 y_I_isOfRewriting.cls J) (Z : ev_Z J prog_3_method_11_code .ireturn ev_b P) : ev_oks J (I_I_isOfRewriting P) :=
  ⟨qq_aln X 0 rfl d_I_isOfRewriting_0,
  qq_gf X 1 2 rfl (fun w h => List.mem_cons_of_mem _ (inE_I w h)) (by decide) (List.mem_cons_of_mem _ mw_72) d_I_isOfRewriting_1,
  qq_ic X 2 (by decide) d_I_isOfRewriting_4,
  qq_iceq X 26 (by decide) d_I_isOfRewriting_5,
  qq_aln X 0 rfl d_I_isOfRewriting_8,
  qq_gf X 1 2 rfl (fun w h => List.mem_cons_of_mem _ (inE_I w h)) (by decide) (List.mem_cons_of_mem _ mw_72) d_I_isOfRewriting_9,
  qq_bp X 76 (by decide) d_I_isOfRewriting_12,
  qq_iceq X 26 (by decide) d_I_isOfRewriting_14,
  qq_aln X 0 rfl d_I_isOfRewriting_17,
  qq_gf X 1 2 rfl (fun w h => List.mem_cons_of_mem _ (inE_I w h)) (by decide) (List.mem_cons_of_mem _ mw_72) d_I_isOfRewriting_18,
  qq_bp X 77 (by decide) d_I_isOfRewriting_21,
  qq_icne X 30 (by decide) d_I_isOfRewriting_23,
  qq_ic X 1 (by decide) d_I_isOfRewriting_26,
  qq_go X 31 (by decide) d_I_isOfRewriting_27,
  qq_ic X 0 (by decide) d_I_isOfRewriting_30,
  qq_rz Z d_I_isOfRewriting_31, trivial⟩
def pre_I_isOfRewriting : List Value → ev_M → ev_L → Prop := pre_I_length
def post_I_isOfRewriting : List Value → ev_M → ev_L → Bool → ev_M → ev_L → Prop := fun as σ τ r σ' τ' => match as with
  | [.ref k] => r = sp_isR (σ k 2) ∧ σ' = σ ∧ τ' = τ
  | _ => False
set_option maxHeartbeats 4000000 in
set_option maxRecDepth 100000 in
theorem c_I_isOfRewriting (l : Launch) : ev_C ev_b l y_I_isOfRewriting ws_I_isOfRewriting rm_I_isOfRewriting evLY evCl pre_I_isOfRewriting post_I_isOfRewriting := by
  refine ev_meth0 (by decide) rfl ev_rop_b ?_ I_I_isOfRewriting (ok_I_isOfRewriting l) 60 ?_
  · rintro _ σ τ ⟨k, rfl, hk⟩
    exact Nat.le_refl _
  · rintro _ σ τ ⟨k, rfl, rfl | rfl | rfl⟩
    all_goals
      repeat' first | refine br_c (fun _ => ?_) (fun _ => ?_) | refine br_n (fun _ => ?_) (fun _ => ?_)
      all_goals
        first
        | (refine ⟨true, rfl, ?_, rfl, rfl⟩; simp_all [sp_isR, Int32.not_lt, Int32.not_le]; done)
        | (refine ⟨false, rfl, ?_, rfl, rfl⟩; simp_all [sp_isR, Int32.not_lt, Int32.not_le]; done)
/-- reading the instruction at a, below a limit: whether there is one, and the store behind it -/
def sp_rd1 (σ : ev_M) (k : Nat) (f : Nat → Int32) (a : Int32) : ev_M := ev_u (ev_u (ev_u σ k 0 a) k 1 (sp_at f a)) k 2 (sp_kind (sp_at f a))
def sp_rd2 (σ : ev_M) (k : Nat) (f : Nat → Int32) (a : Int32) : ev_M := ev_u (ev_u (sp_rd1 σ k f a) k 3 (sp_at f (a + 1))) k 4 (sp_at f (a + 2))
def sp_okR (f : Nat → Int32) (a m : Int32) : Prop := ¬ a < 0 ∧ a < m ∧ ¬ sp_kind (sp_at f a) = -1 ∧ a + sp_len (sp_kind (sp_at f a)) ≤ m
def y_I_read : MethodName := ⟨RX1, "read", "(LBlockCounter$Program;II)Z"⟩
def ws_I_read : List Cond := .code y_I_read prog_3_method_2_code 4 (some .boolean) :: evW
theorem d_I_read_0 : decode prog_3_method_2_code 0 = .ok (.iload_n 2, 1) := by decide +kernel
theorem d_I_read_1 : decode prog_3_method_2_code 1 = .ok (.ifCond .lt 8, 3) := by decide +kernel
theorem d_I_read_4 : decode prog_3_method_2_code 4 = .ok (.iload_n 2, 1) := by decide +kernel
theorem d_I_read_5 : decode prog_3_method_2_code 5 = .ok (.iload_n 3, 1) := by decide +kernel
theorem d_I_read_6 : decode prog_3_method_2_code 6 = .ok (.if_icmp .lt 5, 3) := by decide +kernel
theorem d_I_read_9 : decode prog_3_method_2_code 9 = .ok (.iconst 0, 1) := by decide +kernel
theorem d_I_read_10 : decode prog_3_method_2_code 10 = .ok (.ireturn, 1) := by decide +kernel
theorem d_I_read_11 : decode prog_3_method_2_code 11 = .ok (.aload_n 0, 1) := by decide +kernel
theorem d_I_read_12 : decode prog_3_method_2_code 12 = .ok (.iload_n 2, 1) := by decide +kernel
theorem d_I_read_13 : decode prog_3_method_2_code 13 = .ok (.putfield 7, 3) := by decide +kernel
theorem d_I_read_16 : decode prog_3_method_2_code 16 = .ok (.aload_n 0, 1) := by decide +kernel
theorem d_I_read_17 : decode prog_3_method_2_code 17 = .ok (.aload_n 1, 1) := by decide +kernel
theorem d_I_read_18 : decode prog_3_method_2_code 18 = .ok (.iload_n 2, 1) := by decide +kernel
theorem d_I_read_19 : decode prog_3_method_2_code 19 = .ok (.invokevirtual 13, 3) := by decide +kernel
theorem d_I_read_22 : decode prog_3_method_2_code 22 = .ok (.putfield 19, 3) := by decide +kernel
theorem d_I_read_25 : decode prog_3_method_2_code 25 = .ok (.aload_n 0, 1) := by decide +kernel
theorem d_I_read_26 : decode prog_3_method_2_code 26 = .ok (.aload_n 0, 1) := by decide +kernel
theorem d_I_read_27 : decode prog_3_method_2_code 27 = .ok (.getfield 19, 3) := by decide +kernel
theorem d_I_read_30 : decode prog_3_method_2_code 30 = .ok (.invokestatic 22, 3) := by decide +kernel
theorem d_I_read_33 : decode prog_3_method_2_code 33 = .ok (.putfield 25, 3) := by decide +kernel
theorem d_I_read_36 : decode prog_3_method_2_code 36 = .ok (.aload_n 0, 1) := by decide +kernel
theorem d_I_read_37 : decode prog_3_method_2_code 37 = .ok (.getfield 25, 3) := by decide +kernel
theorem d_I_read_40 : decode prog_3_method_2_code 40 = .ok (.iconst (-1), 1) := by decide +kernel
theorem d_I_read_41 : decode prog_3_method_2_code 41 = .ok (.if_icmp .eq 11, 3) := by decide +kernel
theorem d_I_read_44 : decode prog_3_method_2_code 44 = .ok (.aload_n 0, 1) := by decide +kernel
theorem d_I_read_45 : decode prog_3_method_2_code 45 = .ok (.invokevirtual 28, 3) := by decide +kernel
theorem d_I_read_48 : decode prog_3_method_2_code 48 = .ok (.iload_n 3, 1) := by decide +kernel
theorem d_I_read_49 : decode prog_3_method_2_code 49 = .ok (.if_icmp .le 5, 3) := by decide +kernel
theorem d_I_read_52 : decode prog_3_method_2_code 52 = .ok (.iconst 0, 1) := by decide +kernel
theorem d_I_read_53 : decode prog_3_method_2_code 53 = .ok (.ireturn, 1) := by decide +kernel
theorem d_I_read_54 : decode prog_3_method_2_code 54 = .ok (.aload_n 0, 1) := by decide +kernel
theorem d_I_read_55 : decode prog_3_method_2_code 55 = .ok (.aload_n 1, 1) := by decide +kernel
theorem d_I_read_56 : decode prog_3_method_2_code 56 = .ok (.iload_n 2, 1) := by decide +kernel
theorem d_I_read_57 : decode prog_3_method_2_code 57 = .ok (.iconst 1, 1) := by decide +kernel
theorem d_I_read_58 : decode prog_3_method_2_code 58 = .ok (.iadd, 1) := by decide +kernel
theorem d_I_read_59 : decode prog_3_method_2_code 59 = .ok (.invokevirtual 13, 3) := by decide +kernel
theorem d_I_read_62 : decode prog_3_method_2_code 62 = .ok (.putfield 32, 3) := by decide +kernel
theorem d_I_read_65 : decode prog_3_method_2_code 65 = .ok (.aload_n 0, 1) := by decide +kernel
theorem d_I_read_66 : decode prog_3_method_2_code 66 = .ok (.aload_n 1, 1) := by decide +kernel
theorem d_I_read_67 : decode prog_3_method_2_code 67 = .ok (.iload_n 2, 1) := by decide +kernel
theorem d_I_read_68 : decode prog_3_method_2_code 68 = .ok (.iconst 2, 1) := by decide +kernel
theorem d_I_read_69 : decode prog_3_method_2_code 69 = .ok (.iadd, 1) := by decide +kernel
theorem d_I_read_70 : decode prog_3_method_2_code 70 = .ok (.invokevirtual 13, 3) := by decide +kernel
theorem d_I_read_73 : decode prog_3_method_2_code 73 = .ok (.putfield 35, 3) := by decide +kernel
theorem d_I_read_76 : decode prog_3_method_2_code 76 = .ok (.iconst 1, 1) := by decide +kernel
theorem d_I_read_77 : decode prog_3_method_2_code 77 = .ok (.ireturn, 1) := by decide +kernel
def I_I_read (P : Bool → ev_M → ev_L → Prop) : List (Nat × ev_T) := [(0, tt_il 2 1),
  (1, tt_iflt 9 4),
  (4, tt_il 2 5),
  (5, tt_il 3 6),
  (6, tt_iclt 11 9),
  (9, tt_k 0 10),
  (10, tt_rz P),
  (11, tt_al 0 12),
  (12, tt_il 2 13),
  (13, tt_pf evLY 1 0 16),
  (16, tt_al 0 17),
  (17, tt_al 1 18),
  (18, tt_il 2 19),
  (19, tt_cV evLY 3 1 ev_i pre_P_at post_P_at 22),
  (22, tt_pf evLY 1 1 25),
  (25, tt_al 0 26),
  (26, tt_al 0 27),
  (27, tt_gf evLY 1 1 30),
  (30, tt_cS 1 ev_i pre_I_kindOf post_I_kindOf 33),
  (33, tt_pf evLY 1 2 36),
  (36, tt_al 0 37),
  (37, tt_gf evLY 1 2 40),
  (40, tt_k (-1) 41),
  (41, tt_iceq 52 44),
  (44, tt_al 0 45),
  (45, tt_cV evLY 1 0 ev_i pre_I_behind post_I_behind 48),
  (48, tt_il 3 49),
  (49, tt_icle 54 52),
  (52, tt_k 0 53),
  (53, tt_rz P),
  (54, tt_al 0 55),
  (55, tt_al 1 56),
  (56, tt_il 2 57),
  (57, tt_k 1 58),
  (58, tt_iadd 59),
  (59, tt_cV evLY 3 1 ev_i pre_P_at post_P_at 62),
  (62, tt_pf evLY 1 3 65),
  (65, tt_al 0 66),
  (66, tt_al 1 67),
  (67, tt_il 2 68),
  (68, tt_k 2 69),
  (69, tt_iadd 70),
  (70, tt_cV evLY 3 1 ev_i pre_P_at post_P_at 73),
  (73, tt_pf evLY 1 4 76),
  (76, tt_k 1 77),
  (77, tt_rz P)]
abbrev rm_I_read : Room := { frames := 2, cells := 0, slots := 0, locals := 64 }
set_option maxRecDepth 20000 in
theorem ok_I_read (l : Launch) (J : ev_K) (P : Bool → ev_M → ev_L → Prop) (X : ev_X l rm_I_read evLY evCl ws_I_read prog_3_method_2_code 4 y_I_read.cls J) (Z : ev_Z J prog_3_method_2_code .ireturn ev_b P) : ev_oks J (I_I_read P) :=
  ⟨qq_iln X 2 rfl d_I_read_0,
  qq_iflt X 9 (by decide) d_I_read_1,
  qq_iln X 2 rfl d_I_read_4,
  qq_iln X 3 rfl d_I_read_5,
  qq_iclt X 11 (by decide) d_I_read_6,
  qq_ic X 0 (by decide) d_I_read_9,
  qq_rz Z d_I_read_10,
  qq_aln X 0 rfl d_I_read_11,
  qq_iln X 2 rfl d_I_read_12,
  qq_pf X 1 0 rfl (fun w h => List.mem_cons_of_mem _ (inE_I w h)) (by decide) tyX1 tyX1_ok nmX1 rfl (by decide +kernel) (List.mem_cons_of_mem _ mw_69) d_I_read_13,
  qq_aln X 0 rfl d_I_read_16,
  qq_aln X 1 rfl d_I_read_17,
  qq_iln X 2 rfl d_I_read_18,
  qq_cV X 3 rfl (c_P_at l) (fun hts => cwV 1 hts (evGV (mw_422) (mw_423) (mw_424) (mw_2) (mw_425)) rfl rfl rfl (by decide +kernel) ⟨Nat.le_of_ble_eq_true rfl, Nat.le_of_ble_eq_true rfl⟩) d_I_read_19,
  qq_pf X 1 1 rfl (fun w h => List.mem_cons_of_mem _ (inE_I w h)) (by decide) tyX1 tyX1_ok nmX1 rfl (by decide +kernel) (List.mem_cons_of_mem _ mw_70) d_I_read_22,
  qq_aln X 0 rfl d_I_read_25,
  qq_aln X 0 rfl d_I_read_26,
  qq_gf X 1 1 rfl (fun w h => List.mem_cons_of_mem _ (inE_I w h)) (by decide) (List.mem_cons_of_mem _ mw_70) d_I_read_27,
  qq_cS X (c_I_kindOf l) (fun hts => va_cwS 1 hts (evGS (mw_426) (mw_427) (mw_5) (mw_428)) rfl rfl rfl (by decide +kernel) ⟨Nat.le_of_ble_eq_true rfl, Nat.le_of_ble_eq_true rfl⟩) d_I_read_30,
  qq_pf X 1 2 rfl (fun w h => List.mem_cons_of_mem _ (inE_I w h)) (by decide) tyX1 tyX1_ok nmX1 rfl (by decide +kernel) (List.mem_cons_of_mem _ mw_72) d_I_read_33,
  qq_aln X 0 rfl d_I_read_36,
  qq_gf X 1 2 rfl (fun w h => List.mem_cons_of_mem _ (inE_I w h)) (by decide) (List.mem_cons_of_mem _ mw_72) d_I_read_37,
  qq_ic X (-1) (by decide) d_I_read_40,
  qq_iceq X 52 (by decide) d_I_read_41,
  qq_aln X 0 rfl d_I_read_44,
  qq_cV X 1 rfl (c_I_behind l) (fun hts => cwV 0 hts (evGV (mw_429) (mw_430) (mw_431) (mw_5) (mw_432)) rfl rfl rfl (by decide +kernel) ⟨Nat.le_of_ble_eq_true rfl, Nat.le_of_ble_eq_true rfl⟩) d_I_read_45,
  qq_iln X 3 rfl d_I_read_48,
  qq_icle X 54 (by decide) d_I_read_49,
  qq_ic X 0 (by decide) d_I_read_52,
  qq_rz Z d_I_read_53,
  qq_aln X 0 rfl d_I_read_54,
  qq_aln X 1 rfl d_I_read_55,
  qq_iln X 2 rfl d_I_read_56,
  qq_ic X 1 (by decide) d_I_read_57,
  qq_iadd X d_I_read_58,
  qq_cV X 3 rfl (c_P_at l) (fun hts => cwV 1 hts (evGV (mw_422) (mw_423) (mw_424) (mw_2) (mw_425)) rfl rfl rfl (by decide +kernel) ⟨Nat.le_of_ble_eq_true rfl, Nat.le_of_ble_eq_true rfl⟩) d_I_read_59,
  qq_pf X 1 3 rfl (fun w h => List.mem_cons_of_mem _ (inE_I w h)) (by decide) tyX1 tyX1_ok nmX1 rfl (by decide +kernel) (List.mem_cons_of_mem _ mw_76) d_I_read_62,
  qq_aln X 0 rfl d_I_read_65,
  qq_aln X 1 rfl d_I_read_66,
  qq_iln X 2 rfl d_I_read_67,
  qq_ic X 2 (by decide) d_I_read_68,
  qq_iadd X d_I_read_69,
  qq_cV X 3 rfl (c_P_at l) (fun hts => cwV 1 hts (evGV (mw_422) (mw_423) (mw_424) (mw_2) (mw_425)) rfl rfl rfl (by decide +kernel) ⟨Nat.le_of_ble_eq_true rfl, Nat.le_of_ble_eq_true rfl⟩) d_I_read_70,
  qq_pf X 1 4 rfl (fun w h => List.mem_cons_of_mem _ (inE_I w h)) (by decide) tyX1 tyX1_ok nmX1 rfl (by decide +kernel) (List.mem_cons_of_mem _ mw_80) d_I_read_73,
  qq_ic X 1 (by decide) d_I_read_76,
  qq_rz Z d_I_read_77, trivial⟩
def pre_I_read : List Value → ev_M → ev_L → Prop := fun as _ _ => ∃ (k q : Nat) (a m : Int32), as = [.ref k, .ref q, .int a, .int m] ∧ ((k = 9 ∧ q = 1) ∨ (k = 19 ∧ q = 1) ∨ (k = 24 ∧ q = 1) ∨ (k = 24 ∧ q = 20))
def post_I_read : List Value → ev_M → ev_L → Bool → ev_M → ev_L → Prop := fun as σ τ r σ' τ' => match as with
  | [.ref k, .ref q, .int a, .int m] => τ' = τ ∧ ((r = true ∧ sp_okR (σ (q + 1)) a m ∧ σ' = sp_rd2 σ k (σ (q + 1)) a) ∨ (r = false ∧ ¬ sp_okR (σ (q + 1)) a m ∧ (σ' = σ ∨ σ' = sp_rd1 σ k (σ (q + 1)) a)))
  | _ => False
set_option maxHeartbeats 4000000 in
set_option maxRecDepth 100000 in
theorem c_I_read (l : Launch) : ev_C ev_b l y_I_read ws_I_read rm_I_read evLY evCl pre_I_read post_I_read := by
  refine ev_meth0 (by decide) rfl ev_rop_b ?_ I_I_read (ok_I_read l) 60 ?_
  · rintro _ σ τ ⟨k, q, a, m, rfl, hk⟩
    exact Nat.le_refl _
  · rintro _ σ τ ⟨k, q, a, m, rfl, ⟨rfl, rfl⟩ | ⟨rfl, rfl⟩ | ⟨rfl, rfl⟩ | ⟨rfl, rfl⟩⟩
    all_goals
      refine br_c (fun h => ?_) (fun h => br_c (fun h2 => ?_) (fun h2 => ?_))
      · exact ⟨false, rfl, rfl, Or.inr ⟨rfl, fun q => q.1 h, Or.inl rfl⟩⟩
      · refine ⟨⟨_, _, rfl, by decide⟩, ?_⟩
        rintro _ σ τ ⟨rfl, rfl, rfl⟩
        refine ⟨⟨_, rfl⟩, ?_⟩
        rintro _ σ τ ⟨rfl, rfl, rfl⟩
        refine br_c (fun h3 => ?_) (fun h3 => ?_)
        · exact ⟨false, rfl, rfl, Or.inr ⟨rfl, fun q => q.2.2.1 h3, Or.inr rfl⟩⟩
        · refine ⟨⟨_, rfl, by decide⟩, ?_⟩
          rintro _ σ τ ⟨rfl, rfl, rfl⟩
          refine br_c (fun h4 => ?_) (fun h4 => ?_)
          · refine ⟨⟨_, _, rfl, by decide⟩, ?_⟩
            rintro _ σ τ ⟨rfl, rfl, rfl⟩
            refine ⟨⟨_, _, rfl, by decide⟩, ?_⟩
            rintro _ σ τ ⟨rfl, rfl, rfl⟩
            exact ⟨true, rfl, rfl, Or.inl ⟨rfl, ⟨h, h2, h3, h4⟩, rfl⟩⟩
          · exact ⟨false, rfl, rfl, Or.inr ⟨rfl, fun q => h4 q.2.2.2, Or.inr rfl⟩⟩
      · exact ⟨false, rfl, rfl, Or.inr ⟨rfl, fun q => h2 q.2.1, Or.inl rfl⟩⟩
